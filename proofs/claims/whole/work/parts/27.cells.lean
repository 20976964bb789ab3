/-! CELLS: what meets, what is taken away. (rows by gen/sp4.py) -/
theorem am_le_nil : am_le [] [] := ⟨rfl, fun i v h => by simp [am_nth] at h⟩
theorem am_le_cons {x : Option Value} {r r' : am_L} (h : am_le r r') : am_le (x :: r) (x :: r') := by
  refine ⟨by rw [List.length_cons, List.length_cons, h.1], fun i v hi => ?_⟩
  cases i with
  | zero => exact hi
  | succ i => exact h.2 i v hi
theorem am_le_none {x : Option Value} {r r' : am_L} (h : am_le r r') : am_le (none :: r) (x :: r') := by
  refine ⟨by rw [List.length_cons, List.length_cons, h.1], fun i v hi => ?_⟩
  cases i with
  | zero => simp [am_nth] at hi
  | succ i => exact h.2 i v hi
theorem mr_ll : ∀ Y, Y < 12 → ∀ R, R < 4 → (if (12 : Int32) ≤ nI Y + nI R then 11 else nI Y + nI R) = nI (min 11 (Y + R)) := by decide +kernel
theorem mr_fl : ∀ Y, Y < 12 → ∀ R, R < 4 → (if nI Y - nI R < (0 : Int32) then 0 else nI Y - nI R) = nI (Y - R) := by decide +kernel
theorem mr_f0 : ∀ Z, Z < 10 → (if nI Z < (0 : Int32) then 0 else nI Z) = nI Z := by decide +kernel
theorem mr_sqI {s R Z z : Nat} (hs : s = 101 ∨ s = 98 ∨ s = 118) (hR : R < 4) (hz : z < 6) (hZ : Z ≤ z) : mi_sq (nI s) (nI R) (nI Z) (nI z) = nI (mr_sq s R (z - Z)) := by
  have key : ∀ s ∈ [101, 98, 118], ∀ R, R < 4 → ∀ z, z < 6 → ∀ Z, Z < 6 → Z ≤ z → mi_sq (nI s) (nI R) (nI Z) (nI z) = nI (mr_sq s R (z - Z)) := by decide +kernel
  exact key s (by rcases hs with h | h | h <;> simp [h]) R hR z hz Z (by omega) hZ
theorem mr_spanX : ∀ X, X < 16 → ∀ t, t < 10 → ((1 : Int32) <<< ((mi_rbl (nI X) (am_roots t) + 1) &&& 31)) - (1 <<< (mi_rbf (nI X) (am_roots t) &&& 31)) = mr_w (fun i => decide (mr_d i X ≤ t)) := by decide +kernel
theorem mr_dI : ∀ y, y < 12 → ∀ Y, Y < 12 → (nI y - nI Y) * (nI y - nI Y) = nI (mr_d y Y) := by decide +kernel
theorem mr_d12 : ∀ y, y < 12 → ∀ Y, Y < 12 → mr_d y Y < 200 := by decide +kernel
theorem mr_rbI {X Y y sq : Nat} (hX : X < 16) (hY : Y < 12) (hy : y < 12) (hsq : sq ≤ 9) : mi_rb (nI X) (nI Y) (nI y) (nI sq) = mr_w (fun i => decide (mr_d i X + mr_d y Y ≤ sq)) := by
  unfold mi_rb
  rw [mr_dI y hy Y hY]
  have hb := mr_d12 y hy Y hY
  by_cases h : mr_d y Y ≤ sq
  · rw [pk_sub h, if_neg (nI_pos (by omega)), if_neg (by
      intro q
      have := mi_leN (a := 10) (b := sq - mr_d y Y) (by decide) (by omega) q
      omega), nI_clamp (by omega), mr_spanX X hX (sq - mr_d y Y) (by omega)]
    apply mr_w_congr
    intro i _
    exact decide_eq_decide.mpr (by omega)
  · rw [if_pos (pk_sneg (by omega) (by omega)), eq_comm, mr_zero]
    intro i _
    simp; omega
theorem mr_idx {z y : Nat} : (nI z * 12 + nI y) = nI (12 * z + y) := by
  rw [show (12 : Int32) = nI 12 from rfl, pk_mul, nI_add, Nat.mul_comm]
theorem mr_row_re {s R X Y Z z y x : Nat} (hy : y < 12) (hx : x < 16) (hZ : Z ≤ z) : mr_re s R X Y Z (16 * (12 * z + y) + x) = decide (mr_d x X + mr_d y Y ≤ mr_sq s R (z - Z)) := by
  have e1 : (16 * (12 * z + y) + x) / 192 = z := by omega
  have e2 : (16 * (12 * z + y) + x) % 16 = x := by omega
  have e3 : (16 * (12 * z + y) + x) / 16 % 12 = y := by omega
  unfold mr_re
  rw [e1, e2, e3]
  simp [hZ]
set_option maxHeartbeats 4000000 in
theorem sp8 {d : Nat} {K : am_K} {h : am_H} {a b : Nat} {f : Nat → Int32} {S : Nat → Bool} (h1 : am_nth h a = some (.inr (0, [.ref b]))) (g1 : am_get am_ro h b = some (.inl (0, 72, .inl f))) (hf : ∀ j, j < 72 → f j = mr_w (fun x => S (16 * j + x))) {c s R X Y Z : Nat} (h2 : am_nth h c = some (.inr (6, [.int (nI s), .int (nI R), .int (nI X), .int (nI Y), .int (nI Z)]))) (hs : s = 101 ∨ s = 98 ∨ s = 118) (hR : R < 4) (hX : X < 16) (hY : Y < 12) (hZ : Z < 10) (k : ∀ b : Bool, (b = true ↔ ∃ q, q < 1152 ∧ S q = true ∧ mr_re s R X Y Z q = true) → K (some (.int (am_b b))) h) : am_Run (d + 2) 8 [.ref a, .ref c] h K := by
  refine ⟨rfl, fun P hm hP => ?_⟩
  show P 0 [some (.ref a), some (.ref c), none, none, none, none] [] _ 0 0
  by_cases hZ9 : Z ≤ 6
  case neg =>
    refine s_aload_n hP t8_0 rfl ?_
    refine s_invokevirtual (bc' := 0) (bs' := 0) hP t8_1 rfl h2 rfl rfl rfl ?_
    refine sp66 h2 ?_
    rw [mr_ll Y hY R hR]
    refine s_istore_n_2 hP t8_4 (by exact rfl) ?_
    refine s_aload_n hP t8_5 rfl ?_
    refine s_invokevirtual (bc' := 0) (bs' := 0) hP t8_6 rfl h2 rfl rfl rfl ?_
    refine sp64 h2 ?_
    rw [mr_f0 Z hZ]
    refine s_istore_n_3 hP t8_9 (by exact rfl) ?_
    refine s_iload_n hP t8_10 rfl ?_
    refine s_bipush (v := 6) hP t8_11 (by decide) ?_
    refine s_icmp_ge hP t8_13 (fun q13 => ?_) (fun q13 => ?_)
    · refine s_iconst (v := 0) hP t8_73 (by decide) ?_
      refine s_ireturn hP t8_74 rfl rfl ?_
      refine k false ⟨fun q => (by cases q), fun ⟨q, hq, h5, h6⟩ => ?_⟩
      rw [mr_re_far (Or.inl (by omega))] at h6
      cases h6
    · exact absurd (mi_nleN (a := 6) (by decide) (by omega) q13) (by omega)
  have loop : ∀ (n z : Nat), Z ≤ z → z ≤ 6 → 7 ≤ z + n → (∀ q, q < 192 * z → (S q && mr_re s R X Y Z q) = false) → P 10 [some (.ref a), some (.ref c), some (.int (nI (min 11 (Y + R)))), some (.int (nI z)), none, none] [] h 0 0 := by
    intro n
    induction n with
    | zero => intro z h3 h4 h5; omega
    | succ n ih =>
      intro z hZz h4 h5 hno
      refine s_iload_n hP t8_10 rfl ?_
      refine s_bipush (v := 6) hP t8_11 (by decide) ?_
      refine s_icmp_ge hP t8_13 (fun q13 => ?_) (fun q13 => ?_)
      · have e13 : 6 ≤ z := mi_leN (by decide) (by omega) q13
        refine s_iconst (v := 0) hP t8_73 (by decide) ?_
        refine s_ireturn hP t8_74 rfl rfl ?_
        refine k false ⟨fun q => (by cases q), fun ⟨q, hq, h5, h6⟩ => ?_⟩
        have := hno q (by omega)
        rw [h5, h6] at this
        cases this
      · have e13 : z < 6 := mi_nleN (a := 6) (by decide) (by omega) q13
        refine s_aload_n hP t8_16 rfl ?_
        refine s_iload_n hP t8_17 rfl ?_
        refine s_invokevirtual (bc' := 0) (bs' := 0) hP t8_18 rfl h2 rfl rfl rfl ?_
        refine sp67 h2 ?_
        rw [mr_sqI hs hR (by omega) hZz]
        refine s_istore_4 hP t8_21 (by exact rfl) ?_
        refine s_aload_n hP t8_23 rfl ?_
        refine s_invokevirtual (bc' := 0) (bs' := 0) hP t8_24 rfl h2 rfl rfl rfl ?_
        refine sp65 h2 ?_
        rw [mr_fl Y hY R hR]
        refine s_istore_5 hP t8_27 (by exact rfl) ?_
        have inner : ∀ (n2 y : Nat), Y - R ≤ y → y ≤ min 11 (Y + R) + 1 → min 11 (Y + R) + 2 ≤ y + n2 → (∀ q, q < 16 * (12 * z + y) → (S q && mr_re s R X Y Z q) = false) → P 29 [some (.ref a), some (.ref c), some (.int (nI (min 11 (Y + R)))), some (.int (nI z)), some (.int (nI (mr_sq s R (z - Z)))), some (.int (nI y))] [] h 0 0 := by
          intro n2
          induction n2 with
          | zero => intro y h3 h4 h5; omega
          | succ n2 ih2 =>
            intro y h3 h4 h5 hno
            refine s_iload hP t8_29 rfl ?_
            refine s_iload_n hP t8_31 rfl ?_
            refine s_icmp_gt hP t8_32 (fun q32 => ?_) (fun q32 => ?_)
            · have e32 : min 11 (Y + R) < y := Nat.lt_of_not_le (fun q => Int32.not_le.mpr q32 ((nI_leI (by omega) (by omega)).mpr q))
              refine s_iinc_3 (v := 1) hP t8_67 (by decide) (by exact rfl) ?_
              refine s_goto hP t8_70 ?_
              rw [nI_1]
              refine hm _ _ _ _ _ _ _ (by repeat (first | exact am_le_nil | apply am_le_cons | apply am_le_none)) (ih (z + 1) (by omega) (by omega) (by omega) (fun q hq => ?_))
              by_cases hlt : q < 16 * (12 * z + y)
              · exact hno q hlt
              · rw [mr_re_far (Or.inr (Or.inl (by omega)))]
                simp
            · have e32 : y ≤ min 11 (Y + R) := (nI_leI (by omega) (by omega)).mp (Int32.not_lt.mp q32)
              refine s_aload_n hP t8_35 rfl ?_
              refine s_getfield hP t8_36 h1 rfl ?_
              refine s_iload_n hP t8_39 rfl ?_
              refine s_bipush (v := 12) hP t8_40 (by decide) ?_
              refine s_imul hP t8_42 ?_
              refine s_iload hP t8_43 rfl ?_
              refine s_iadd hP t8_45 ?_
              refine s_iaload hP t8_46 g1 (by rw [mr_idx]; exact vp_in_nI (by omega) (by decide)) ?_
              rw [mr_idx, nI_clamp (by omega), hf _ (by omega)]
              refine s_aload_n hP t8_47 rfl ?_
              refine s_iload hP t8_48 rfl ?_
              refine s_iload hP t8_50 rfl ?_
              refine s_invokevirtual (bc' := 0) (bs' := 0) hP t8_52 rfl h2 rfl rfl rfl ?_
              refine sp68 h2 ?_
              rw [mr_rbI hX hY (by omega) (mr_sq_le (by omega))]
              refine s_iand hP t8_55 ?_
              rw [mr_and]
              refine s_if_eq hP t8_56 (fun q56 => ?_) (fun q56 => ?_)
              · have e56 := mr_zero.mp q56
                refine s_iinc_5 (v := 1) hP t8_61 (by decide) (by exact rfl) ?_
                refine s_goto hP t8_64 ?_
                rw [nI_1]
                refine hm _ _ _ _ _ _ _ (by repeat (first | exact am_le_nil | apply am_le_cons | apply am_le_none)) (ih2 (y + 1) (by omega) (by omega) (by omega) (fun q hq => ?_))
                by_cases hlt : q < 16 * (12 * z + y)
                · exact hno q hlt
                · have hx : q - 16 * (12 * z + y) < 16 := by omega
                  have := e56 (q - 16 * (12 * z + y)) hx
                  rw [← mr_row_re (s := s) (by omega) hx hZz, show 16 * (12 * z + y) + (q - 16 * (12 * z + y)) = q by omega] at this
                  exact this
              · have e56 : ∃ x, x < 16 ∧ (S (16 * (12 * z + y) + x) && decide (mr_d x X + mr_d y Y ≤ mr_sq s R (z - Z))) = true := Classical.byContradiction (fun q => q56 (mr_zero.mpr (fun x hx => by
                  cases hq : (S (16 * (12 * z + y) + x) && decide (mr_d x X + mr_d y Y ≤ mr_sq s R (z - Z)))
                  · rfl
                  · exact absurd ⟨x, hx, hq⟩ q)))
                refine s_iconst (v := 1) hP t8_59 (by decide) ?_
                refine s_ireturn hP t8_60 rfl rfl ?_
                obtain ⟨x, hx, hq⟩ := e56
                refine k true ⟨fun _ => ⟨16 * (12 * z + y) + x, by omega, ?_⟩, fun _ => rfl⟩
                rw [mr_row_re (by omega) hx hZz]
                simpa using hq
        exact inner (min 11 (Y + R) + 2) (Y - R) (Nat.le_refl _) (by omega) (by omega) (fun q hq => by
          by_cases hlt : q < 192 * z
          · exact hno q hlt
          · rw [mr_re_far (Or.inr (Or.inr (by omega)))]
            simp)
  refine s_aload_n hP t8_0 rfl ?_
  refine s_invokevirtual (bc' := 0) (bs' := 0) hP t8_1 rfl h2 rfl rfl rfl ?_
  refine sp66 h2 ?_
  rw [mr_ll Y hY R hR]
  refine s_istore_n_2 hP t8_4 (by exact rfl) ?_
  refine s_aload_n hP t8_5 rfl ?_
  refine s_invokevirtual (bc' := 0) (bs' := 0) hP t8_6 rfl h2 rfl rfl rfl ?_
  refine sp64 h2 ?_
  rw [mr_f0 Z hZ]
  refine s_istore_n_3 hP t8_9 (by exact rfl) ?_
  exact loop 7 Z (Nat.le_refl _) hZ9 (by omega) (fun q hq => by rw [mr_re_far (Or.inl (by omega))]; simp)
