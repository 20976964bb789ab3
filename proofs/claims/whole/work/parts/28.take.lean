/-! CELLS: taking away, filling, counting. (rows by gen/sp5.py) -/
theorem am_upd_upd {h : am_H} {a : Nat} {x y : am_E} : am_upd (am_upd h a x) a y = am_upd h a y := by
  rw [am_upd_eq, am_upd_eq, am_upd_eq, List.set_set]
theorem am_upd_self {h : am_H} {a : Nat} {x : am_E} (hx : am_nth h a = some x) : am_upd h a x = h := by
  rw [am_nth_eq] at hx
  rw [am_upd_eq]
  obtain ⟨h1, h2⟩ := List.getElem?_eq_some_iff.mp hx
  rw [← h2, List.set_getElem_self]
theorem am_getu {h : am_H} {b : Nat} {e0 e : am_E} (hb : Nat.blt b 1000 = true) (hn : am_nth h b = some e0) : am_get am_ro (am_upd h b e) b = some e := am_getn hb (am_nth_self hn)
theorem mi_iw_nI {x b : Int32} {N : Nat} (hb : b = nI N) (hN : N < 2 ^ 31) (h : mi_iw x 0 b = true) : ∃ n, n ≤ N ∧ x = nI n := by
  subst hb
  simp only [mi_iw, Bool.and_eq_true, decide_eq_true_eq] at h
  obtain ⟨j, hj, rfl⟩ := nI_of (x := x) (Int32.not_lt.mpr h.1)
  exact ⟨j, (nI_leI hj hN).mp h.2, rfl⟩
theorem mi_iw_at {n N : Nat} (hN : N < 2 ^ 31) (h : n ≤ N) : mi_iw (nI n) 0 (nI N) = true := by
  simp only [mi_iw, Bool.and_eq_true, decide_eq_true_eq]
  exact ⟨nI_pos' (by omega), nI_le h hN⟩
theorem mi_cell_nI {x y z : Int32} (h : mi_cell x y z = true) : ∃ X Y Z, X < 16 ∧ Y < 12 ∧ Z < 6 ∧ x = nI X ∧ y = nI Y ∧ z = nI Z := by
  simp only [mi_cell, Bool.and_eq_true] at h
  obtain ⟨⟨h1, h2⟩, h3⟩ := h
  obtain ⟨X, hX, rfl⟩ := mi_iw_nI (N := 15) rfl (by decide) h1
  obtain ⟨Y, hY, rfl⟩ := mi_iw_nI (N := 11) rfl (by decide) h2
  obtain ⟨Z, hZ, rfl⟩ := mi_iw_nI (N := 5) rfl (by decide) h3
  exact ⟨X, Y, Z, by omega, by omega, by omega, rfl, rfl, rfl⟩
def mr_sumL : Nat → (Nat → Bool) → Int64
  | 0, _ => 0
  | n + 1, p => mr_sumL n p + cond (p n) (lN ((n + 1) * (n + 1))) 0
theorem mr_cnt_row {s R X Y Z z y : Nat} {S : Nat → Bool} (hy : y < 12) (hz : z < 6) (hZ : Z ≤ z) : mr_cnt (16 * (12 * z + (y + 1))) (fun q => S q && mr_re s R X Y Z q) = mr_cnt (16 * (12 * z + y)) (fun q => S q && mr_re s R X Y Z q) + mr_cnt 16 (fun x => S (16 * (12 * z + y) + x) && decide (mr_d x X + mr_d y Y ≤ mr_sq s R (z - Z))) := by
  rw [show 16 * (12 * z + (y + 1)) = 16 * (12 * z + y) + 16 by omega, mr_cnt_add]
  congr 1
  apply mr_cnt_congr
  intro x hx
  rw [mr_row_re hy hx hZ]
theorem mr_cnt_far {s R X Y Z n m : Nat} {S : Nat → Bool} (hnm : n ≤ m) (h : ∀ q, n ≤ q → q < m → mr_re s R X Y Z q = false) : mr_cnt n (fun q => S q && mr_re s R X Y Z q) = mr_cnt m (fun q => S q && mr_re s R X Y Z q) := by
  obtain ⟨d, rfl⟩ : ∃ d, m = n + d := ⟨m - n, by omega⟩
  rw [mr_cnt_add, mr_cnt_zero (p := fun k => S (n + k) && mr_re s R X Y Z (n + k)) d (fun k hk => by rw [h (n + k) (by omega) (by omega)]; simp)]
  rfl
set_option maxHeartbeats 4000000 in
theorem sp9 {d : Nat} {K : am_K} {h : am_H} {a b : Nat} {f : Nat → Int32} {S : Nat → Bool} (h1 : am_nth h a = some (.inr (0, [.ref b]))) (g1 : am_nth h b = some (.inl (0, 72, .inl f))) (hb : Nat.blt b 1000 = true) (hba : b ≠ a) (hf : ∀ j, j < 72 → f j = mr_w (fun x => S (16 * j + x))) {c s R X Y Z : Nat} (h2 : am_nth h c = some (.inr (6, [.int (nI s), .int (nI R), .int (nI X), .int (nI Y), .int (nI Z)]))) (hs : s = 101 ∨ s = 98 ∨ s = 118) (hR : R < 4) (hX : X < 16) (hY : Y < 12) (hZ : Z < 10) (hbc : b ≠ c) (k : ∀ g : Nat → Int32, (∀ j, j < 72 → g j = mr_w (fun x => S (16 * j + x) && !mr_re s R X Y Z (16 * j + x))) → K (some (.int (nI (mr_cnt 1152 (fun q => S q && mr_re s R X Y Z q))))) (am_upd h b (.inl (0, 72, .inl g)))) : am_Run (d + 2) 9 [.ref a, .ref c] h K := by
  refine ⟨rfl, fun P hm hP => ?_⟩
  show P 0 [some (.ref a), some (.ref c), none, none, none, none, none, none, none] [] _ 0 0
  have hself : h = am_upd h b (.inl (0, 72, .inl f)) := (am_upd_self g1).symm
  rw [hself]
  by_cases hZ9 : Z ≤ 6
  case neg =>
    refine s_iconst (v := 0) hP t9_0 (by decide) ?_
    refine s_istore_n_2 hP t9_1 (by exact rfl) ?_
    refine s_aload_n hP t9_2 rfl ?_
    refine s_invokevirtual (bc' := 0) (bs' := 0) hP t9_3 rfl ((am_nth_ne hbc).trans h2) rfl rfl rfl ?_
    refine sp66 ((am_nth_ne hbc).trans h2) ?_
    rw [mr_ll Y hY R hR]
    refine s_istore_n_3 hP t9_6 (by exact rfl) ?_
    refine s_aload_n hP t9_7 rfl ?_
    refine s_invokevirtual (bc' := 0) (bs' := 0) hP t9_8 rfl ((am_nth_ne hbc).trans h2) rfl rfl rfl ?_
    refine sp64 ((am_nth_ne hbc).trans h2) ?_
    rw [mr_f0 Z hZ]
    refine s_istore_4 hP t9_11 (by exact rfl) ?_
    refine s_iload hP t9_13 rfl ?_
    refine s_bipush (v := 6) hP t9_15 (by decide) ?_
    refine s_icmp_ge hP t9_17 (fun q17 => ?_) (fun q17 => ?_)
    · refine s_iload_n hP t9_100 rfl ?_
      refine s_ireturn hP t9_101 rfl rfl ?_
      rw [show (0 : Int32) = nI (mr_cnt 1152 (fun q => S q && mr_re s R X Y Z q)) from by
        rw [mr_cnt_zero (p := fun q => S q && mr_re s R X Y Z q) _ (fun q hq => by rw [mr_re_far (Or.inl (by omega))]; simp)]; rfl]
      exact k f (fun j hj => by
        rw [hf j hj]
        refine mr_w_congr (fun x hx => ?_)
        rw [mr_re_far (Or.inl (by omega))]; simp)
    · exact absurd (mi_nleN (a := 6) (by decide) (by omega) q17) (by omega)
  have loop : ∀ (n z : Nat) (g : Nat → Int32), Z ≤ z → z ≤ 6 → 7 ≤ z + n → (∀ j, j < 72 → g j = mr_w (fun x => S (16 * j + x) && !(decide (j < 12 * z) && mr_re s R X Y Z (16 * j + x)))) → P 13 [some (.ref a), some (.ref c), some (.int (nI (mr_cnt (192 * z) (fun q => S q && mr_re s R X Y Z q)))), some (.int (nI (min 11 (Y + R)))), some (.int (nI z)), none, none, none, none] [] (am_upd h b (.inl (0, 72, .inl g))) 0 0 := by
    intro n
    induction n with
    | zero => intro z g h3 h4 h5; omega
    | succ n ih =>
      intro z g hZz h4 h5 hg
      refine s_iload hP t9_13 rfl ?_
      refine s_bipush (v := 6) hP t9_15 (by decide) ?_
      refine s_icmp_ge hP t9_17 (fun q17 => ?_) (fun q17 => ?_)
      · have e13 : 6 ≤ z := mi_leN (by decide) (by omega) q17
        refine s_iload_n hP t9_100 rfl ?_
        refine s_ireturn hP t9_101 rfl rfl ?_
        obtain rfl : z = 6 := by omega
        exact k g (fun j hj => by
          rw [hg j hj]
          refine mr_w_congr (fun x hx => ?_)
          rw [show decide (j < 12 * 6) = true by simpa using hj]
          simp)
      · have e13 : z < 6 := mi_nleN (a := 6) (by decide) (by omega) q17
        refine s_aload_n hP t9_20 rfl ?_
        refine s_iload hP t9_21 rfl ?_
        refine s_invokevirtual (bc' := 0) (bs' := 0) hP t9_23 rfl ((am_nth_ne hbc).trans h2) rfl rfl rfl ?_
        refine sp67 ((am_nth_ne hbc).trans h2) ?_
        rw [mr_sqI hs hR (by omega) hZz]
        refine s_istore_5 hP t9_26 (by exact rfl) ?_
        refine s_aload_n hP t9_28 rfl ?_
        refine s_invokevirtual (bc' := 0) (bs' := 0) hP t9_29 rfl ((am_nth_ne hbc).trans h2) rfl rfl rfl ?_
        refine sp65 ((am_nth_ne hbc).trans h2) ?_
        rw [mr_fl Y hY R hR]
        refine s_istore_6 hP t9_32 (by exact rfl) ?_
        have inner : ∀ (n2 y : Nat) (g : Nat → Int32), Y - R ≤ y → y ≤ min 11 (Y + R) + 1 → min 11 (Y + R) + 2 ≤ y + n2 → (∀ j, j < 72 → g j = mr_w (fun x => S (16 * j + x) && !(decide (j < 12 * z + y) && mr_re s R X Y Z (16 * j + x)))) → P 34 [some (.ref a), some (.ref c), some (.int (nI (mr_cnt (16 * (12 * z + y)) (fun q => S q && mr_re s R X Y Z q)))), some (.int (nI (min 11 (Y + R)))), some (.int (nI z)), some (.int (nI (mr_sq s R (z - Z)))), some (.int (nI y)), none, none] [] (am_upd h b (.inl (0, 72, .inl g))) 0 0 := by
          intro n2
          induction n2 with
          | zero => intro y g h3 h4 h5; omega
          | succ n2 ih2 =>
            intro y g h3 h4 h5 hg
            refine s_iload hP t9_34 rfl ?_
            refine s_iload_n hP t9_36 rfl ?_
            refine s_icmp_gt hP t9_37 (fun q37 => ?_) (fun q37 => ?_)
            · have e32 : min 11 (Y + R) < y := Nat.lt_of_not_le (fun q => Int32.not_le.mpr q37 ((nI_leI (by omega) (by omega)).mpr q))
              refine s_iinc_4 (v := 1) hP t9_94 (by decide) (by exact rfl) ?_
              refine s_goto hP t9_97 ?_
              rw [nI_1, mr_cnt_far (n := 16 * (12 * z + y)) (m := 192 * (z + 1)) (by omega) (fun q h5 h6 => mr_re_far (Or.inr (Or.inl (by omega))))]
              refine hm _ _ _ _ _ _ _ (by repeat (first | exact am_le_nil | apply am_le_cons | apply am_le_none)) (ih (z + 1) g (by omega) (by omega) (by omega) (fun j hj => ?_))
              rw [hg j hj]
              refine mr_w_congr (fun x hx => ?_)
              by_cases hlt : j < 12 * z + y
              · rw [show decide (j < 12 * z + y) = true by simpa using hlt, show decide (j < 12 * (z + 1)) = true by simp; omega]
              · by_cases hlt2 : j < 12 * (z + 1)
                · rw [mr_re_far (Or.inr (Or.inl (by omega)))]; simp
                · rw [show decide (j < 12 * z + y) = false by simpa using hlt, show decide (j < 12 * (z + 1)) = false by simpa using hlt2]
            · have e32 : y ≤ min 11 (Y + R) := (nI_leI (by omega) (by omega)).mp (Int32.not_lt.mp q37)
              have hrow : g (12 * z + y) = mr_w (fun x => S (16 * (12 * z + y) + x)) := by
                rw [hg _ (by omega)]
                exact mr_w_congr (fun x _ => by simp)
              refine s_iload hP t9_40 rfl ?_
              refine s_bipush (v := 12) hP t9_42 (by decide) ?_
              refine s_imul hP t9_44 ?_
              refine s_iload hP t9_45 rfl ?_
              refine s_iadd hP t9_47 ?_
              rw [mr_idx]
              refine s_istore_7 hP t9_48 (by exact rfl) ?_
              refine s_aload_n hP t9_50 rfl ?_
              refine s_getfield hP t9_51 ((am_nth_ne hba).trans h1) rfl ?_
              refine s_iload hP t9_54 rfl ?_
              refine s_iaload hP t9_56 (am_getu hb g1) (vp_in_nI (by omega) (by decide)) ?_
              rw [nI_clamp (by omega), hrow]
              refine s_aload_n hP t9_57 rfl ?_
              refine s_iload hP t9_58 rfl ?_
              refine s_iload hP t9_60 rfl ?_
              refine s_invokevirtual (bc' := 0) (bs' := 0) hP t9_62 rfl ((am_nth_ne hbc).trans h2) rfl rfl rfl ?_
              refine sp68 ((am_nth_ne hbc).trans h2) ?_
              rw [mr_rbI hX hY (by omega) (mr_sq_le (by omega))]
              refine s_iand hP t9_65 ?_
              rw [mr_and]
              refine s_istore_8 hP t9_66 (by exact rfl) ?_
              refine s_iload_n hP t9_68 rfl ?_
              refine s_iload hP t9_69 rfl ?_
              refine s_invokestatic (bc' := 0) (bs' := 0) hP t9_71 rfl rfl rfl rfl rfl ?_
              refine sp157 ?_
              rw [mr_bc]
              refine s_iadd hP t9_74 ?_
              rw [nI_add, ← mr_cnt_row (by omega) (by omega) hZz]
              refine s_istore_n_2 hP t9_75 (by exact rfl) ?_
              refine s_aload_n hP t9_76 rfl ?_
              refine s_getfield hP t9_77 ((am_nth_ne hba).trans h1) rfl ?_
              refine s_iload hP t9_80 rfl ?_
              refine s_dup2 hP t9_82 rfl rfl ?_
              refine s_iaload hP t9_83 (am_getu hb g1) (vp_in_nI (by omega) (by decide)) ?_
              rw [nI_clamp (by omega), hrow]
              refine s_iload hP t9_84 rfl ?_
              refine s_isub hP t9_86 ?_
              rw [mr_sub (fun x _ q => (Bool.and_eq_true _ _ ▸ q).1)]
              refine s_iastore hP t9_87 (am_nth_self g1) (vp_in_nI (by omega) (by decide)) ?_
              rw [nI_clamp (by omega), am_upd_upd]
              refine s_iinc_6 (v := 1) hP t9_88 (by decide) (by exact rfl) ?_
              refine s_goto hP t9_91 ?_
              rw [nI_1]
              refine hm _ _ _ _ _ _ _ (by repeat (first | exact am_le_nil | apply am_le_cons | apply am_le_none)) (ih2 (y + 1) _ (by omega) (by omega) (by omega) (fun j hj => ?_))
              by_cases hjy : j = 12 * z + y
              · subst hjy
                rw [show upd g (12 * z + y) _ (12 * z + y) = _ from pk_us]
                refine mr_w_congr (fun x hx => ?_)
                rw [mr_row_re (by omega) hx hZz, show decide (12 * z + y < 12 * z + (y + 1)) = true by simp]
                cases S (16 * (12 * z + y) + x) <;> simp
              · rw [show upd g (12 * z + y) _ j = g j from pk_un hjy, hg j hj]
                refine mr_w_congr (fun x hx => ?_)
                rw [show decide (j < 12 * z + y) = decide (j < 12 * z + (y + 1)) from decide_eq_decide.mpr (by omega)]
        rw [mr_cnt_far (n := 192 * z) (m := 16 * (12 * z + (Y - R))) (by omega) (fun q h5 h6 => mr_re_far (Or.inr (Or.inr (by omega))))]
        exact inner (min 11 (Y + R) + 2) (Y - R) g (Nat.le_refl _) (by omega) (by omega) (fun j hj => by
          rw [hg j hj]
          refine mr_w_congr (fun x hx => ?_)
          by_cases hlt : j < 12 * z
          · rw [show decide (j < 12 * z) = true by simpa using hlt, show decide (j < 12 * z + (Y - R)) = true by simp; omega]
          · by_cases hlt2 : j < 12 * z + (Y - R)
            · rw [mr_re_far (Or.inr (Or.inr (by omega)))]; simp
            · rw [show decide (j < 12 * z) = false by simpa using hlt, show decide (j < 12 * z + (Y - R)) = false by simpa using hlt2])
  refine s_iconst (v := 0) hP t9_0 (by decide) ?_
  refine s_istore_n_2 hP t9_1 (by exact rfl) ?_
  refine s_aload_n hP t9_2 rfl ?_
  refine s_invokevirtual (bc' := 0) (bs' := 0) hP t9_3 rfl ((am_nth_ne hbc).trans h2) rfl rfl rfl ?_
  refine sp66 ((am_nth_ne hbc).trans h2) ?_
  rw [mr_ll Y hY R hR]
  refine s_istore_n_3 hP t9_6 (by exact rfl) ?_
  refine s_aload_n hP t9_7 rfl ?_
  refine s_invokevirtual (bc' := 0) (bs' := 0) hP t9_8 rfl ((am_nth_ne hbc).trans h2) rfl rfl rfl ?_
  refine sp64 ((am_nth_ne hbc).trans h2) ?_
  rw [mr_f0 Z hZ]
  refine s_istore_4 hP t9_11 (by exact rfl) ?_
  rw [show (0 : Int32) = nI (mr_cnt (192 * Z) (fun q => S q && mr_re s R X Y Z q)) from by
    rw [mr_cnt_zero (p := fun q => S q && mr_re s R X Y Z q) _ (fun q hq => by rw [mr_re_far (Or.inl (by omega))]; simp)]; rfl]
  exact loop 7 Z f (Nat.le_refl _) hZ9 (by omega) (fun j hj => by
    rw [hf j hj]
    refine mr_w_congr (fun x hx => ?_)
    by_cases hlt : j < 12 * Z
    · rw [mr_re_far (Or.inl (by omega))]; simp
    · rw [show decide (j < 12 * Z) = false by simpa using hlt]; simp)
