/-! RACKS COUNTED, KINDS, THE PROGRAM. (rows by gen/sp7.py) -/
def mi_fil (f1 : Nat → Int32) (x : Int32) : Bool := mi_iw x 0 11 && decide (¬ f1 x.toNatClampNeg = 0)
theorem mi_sum_b (p : Nat → Bool) : ∀ n, mi_sum n (fun i => am_b (p i)) = nI (mr_cnt n p)
  | 0 => rfl
  | n + 1 => by
    rw [mi_sum, mi_sum_b p n, mr_cnt]
    cases p n
    · exact nI_add _ 0
    · exact nI_1 _
set_option maxHeartbeats 1000000 in
theorem sp59 {d : Nat} {K : am_K} {h : am_H} {a b1 b2 b3 : Nat} {f1 f2 : Nat → Int32} (h1 : am_nth h a = some (.inr (5, [.ref b1, .ref b2, .ref b3]))) (g1 : am_get am_ro h b1 = some (.inl (1, 12, .inl f1))) (g2 : am_get am_ro h b2 = some (.inl (0, 12, .inl f2))) {x : Int32} {N : Nat} (hN : N < 100) (k : K (some (.int (nI (mr_cnt N (fun j => mi_fil f1 (x + nI j)))))) h) : am_Run (d + 3) 59 [.ref a, .int x, .int (nI N)] h K := by
  refine ⟨rfl, fun P hm hP => ?_⟩
  show P 0 [some (.ref a), some (.int x), some (.int (nI N)), none, none] [] _ 0 0
  have loop : ∀ (n i : Nat), i ≤ N → N + 1 ≤ i + n → P 5 [some (.ref a), some (.int x), some (.int (nI N)), some (.int (nI (mr_cnt i (fun j => mi_fil f1 (x + nI j))))), some (.int (nI i))] [] h 0 0 := by
    intro n
    induction n with
    | zero => intro i h3 h4; omega
    | succ n ih =>
      intro i h3 h4
      refine s_iload hP t59_5 rfl ?_
      refine s_iload_n hP t59_7 rfl ?_
      refine s_icmp_ge hP t59_8 (fun q8 => ?_) (fun q8 => ?_)
      · have e9 : N ≤ i := (nI_leI (by omega) (by omega)).mp q8
        refine s_iload_n hP t59_31 rfl ?_
        refine s_ireturn hP t59_32 rfl rfl ?_
        obtain rfl : i = N := by omega
        exact k
      · have e9 : i < N := Nat.lt_of_not_le (fun q => q8 ((nI_leI (by omega) (by omega)).mpr q))
        refine s_aload_n hP t59_11 rfl ?_
        refine s_iload_n hP t59_12 rfl ?_
        refine s_iload hP t59_13 rfl ?_
        refine s_iadd hP t59_15 ?_
        refine s_invokevirtual (bc' := 0) (bs' := 0) hP t59_16 rfl h1 rfl rfl rfl ?_
        refine sp58 h1 g1 g2 ?_
        refine s_zeq hP t59_19 (fun q19 => ?_) (fun q19 => ?_)
        · rw [show mr_cnt i (fun j => mi_fil f1 (x + nI j)) = mr_cnt (i + 1) (fun j => mi_fil f1 (x + nI j)) by rw [mr_cnt, show mi_fil f1 (x + nI i) = false from q19]; rfl]
          refine s_iinc_4 (v := 1) hP t59_25 (by decide) (by exact rfl) ?_
          refine s_goto hP t59_28 ?_
          rw [nI_1]
          exact ih (i + 1) (by omega) (by omega)
        · have e19 : nI (mr_cnt i (fun j => mi_fil f1 (x + nI j))) + 1 = nI (mr_cnt (i + 1) (fun j => mi_fil f1 (x + nI j))) := by rw [nI_1, mr_cnt, show mi_fil f1 (x + nI i) = true from q19]; rfl
          refine s_iinc_3 (v := 1) hP t59_22 (by decide) (by exact rfl) ?_
          rw [e19]
          refine s_iinc_4 (v := 1) hP t59_25 (by decide) (by exact rfl) ?_
          refine s_goto hP t59_28 ?_
          rw [nI_1]
          exact ih (i + 1) (by omega) (by omega)
  refine s_iconst (v := 0) hP t59_0 (by decide) ?_
  refine s_istore_n_3 hP t59_1 (by exact rfl) ?_
  refine s_iconst (v := 0) hP t59_2 (by decide) ?_
  refine s_istore_4 hP t59_3 (by exact rfl) ?_
  exact loop (N + 1) 0 (by omega) (by omega)
theorem mi_kind_iff {x : Int32} : mi_kind x = true ↔ ∃ j, j < 15 ∧ am_kinds j = x := by
  simp only [mi_kind, decide_eq_true_eq]
  constructor
  · rintro (h | h | h | h | h | h | h | h | h | h | h | h | h | h | h)
    all_goals subst h
    all_goals first | exact ⟨0, by decide, rfl⟩ | exact ⟨1, by decide, rfl⟩ | exact ⟨2, by decide, rfl⟩ | exact ⟨3, by decide, rfl⟩ | exact ⟨4, by decide, rfl⟩ | exact ⟨5, by decide, rfl⟩ | exact ⟨6, by decide, rfl⟩ | exact ⟨7, by decide, rfl⟩ | exact ⟨8, by decide, rfl⟩ | exact ⟨9, by decide, rfl⟩ | exact ⟨10, by decide, rfl⟩ | exact ⟨11, by decide, rfl⟩ | exact ⟨12, by decide, rfl⟩ | exact ⟨13, by decide, rfl⟩ | exact ⟨14, by decide, rfl⟩
  · rintro ⟨j, hj, rfl⟩
    have : ∀ j, j < 15 → (am_kinds j = 103 ∨ am_kinds j = 108 ∨ am_kinds j = 100 ∨ am_kinds j = 112 ∨ am_kinds j = 116 ∨ am_kinds j = 115 ∨ am_kinds j = 102 ∨ am_kinds j = 109 ∨ am_kinds j = 111 ∨ am_kinds j = 118 ∨ am_kinds j = 120 ∨ am_kinds j = 114 ∨ am_kinds j = 105 ∨ am_kinds j = 101 ∨ am_kinds j = 113) := by decide +kernel
    exact this j hj
set_option maxHeartbeats 1000000 in
theorem sp92 {d : Nat} {K : am_K} {h : am_H} {x : Int32} (k : K (some (.int (am_b (mi_kind x)))) h) : am_Run (d + 1) 92 [.int x] h K := by
  refine ⟨rfl, fun P hm hP => ?_⟩
  show P 0 [some (.int x), none] [] _ 0 0
  have loop : ∀ (n i : Nat), i ≤ 15 → 15 + 1 ≤ i + n → (∀ j, j < i → ¬ am_kinds j = x) → P 2 [some (.int x), some (.int (nI i))] [] h 0 0 := by
    intro n
    induction n with
    | zero => intro i h3 h4; omega
    | succ n ih =>
      intro i h3 h4 hi
      refine s_iload_n hP t92_2 rfl ?_
      refine s_getstatic hP t92_3 ?_
      refine s_arraylength hP t92_6 rfl rfl ?_
      refine s_icmp_ge hP t92_7 (fun q7 => ?_) (fun q7 => ?_)
      · have e9 : 15 ≤ i := mi_leN (by decide) (by omega) q7
        refine s_iconst (v := 0) hP t92_27 (by decide) ?_
        refine s_ireturn hP t92_28 rfl rfl ?_
        rw [show mi_kind x = false from (Bool.not_eq_true _).mp (fun q => by
          obtain ⟨j, hj, hjx⟩ := mi_kind_iff.mp q
          exact hi j (by omega) hjx)] at k
        exact k
      · have e9 : i < 15 := mi_nleN (a := 15) (by decide) (by omega) q7
        refine s_getstatic hP t92_10 ?_
        refine s_iload_n hP t92_13 rfl ?_
        refine s_caload hP t92_14 rfl (vp_in_nI e9 (by decide)) ?_
        rw [nI_clamp (by omega)]
        refine s_iload_n hP t92_15 rfl ?_
        refine s_icmp_ne hP t92_16 (fun q16 => ?_) (fun q16 => ?_)
        · refine s_iinc_1 (v := 1) hP t92_21 (by decide) (by exact rfl) ?_
          refine s_goto hP t92_24 ?_
          rw [nI_1]
          exact ih (i + 1) (by omega) (by omega) (fun j hj => by
            by_cases hji : j = i
            · rw [hji]; exact q16
            · exact hi j (by omega))
        · refine s_iconst (v := 1) hP t92_19 (by decide) ?_
          refine s_ireturn hP t92_20 rfl rfl ?_
          rw [mi_kind_iff.mpr ⟨i, e9, q16⟩] at k
          exact k
  refine s_iconst (v := 0) hP t92_0 (by decide) ?_
  refine s_istore_n_1 hP t92_1 (by exact rfl) ?_
  exact loop 16 0 (by omega) (by omega) (fun j hj => by omega)
/-- the last opening below n that has no partner -/
def mp_find (kd pt : Nat → Int32) : Nat → Option Nat
  | 0 => none
  | i + 1 => if mi_op (kd i) = true ∧ pt i = -1 then some i else mp_find kd pt i
def mp_close (kd pt : Nat → Int32) (n : Nat) : Nat → Int32 := match mp_find kd pt n with
  | some i => upd (upd pt i (nI n)) n (nI i)
  | none => pt
theorem mp_find_lt {kd pt : Nat → Int32} : ∀ {n i : Nat}, mp_find kd pt n = some i → i < n
  | 0, i, h => by cases h
  | n + 1, i, h => by
    rw [mp_find] at h
    split at h
    · cases h; omega
    · exact Nat.lt_succ_of_lt (mp_find_lt h)
theorem mi_m1 (x : Int32) : x + (-1) = x - 1 := (Int32.sub_eq_add_neg x 1).symm
theorem nI_m1 (n : Nat) : nI (n + 1) + (-1) = nI n := pk_m1 n
theorem nI_neg {n : Nat} : (nI 0 + (-1) : Int32) < 0 := by decide +kernel
theorem mi_iw_blk {i n : Nat} (h : i < n) (hn : n ≤ 64) : mi_iw (nI i) 0 (nI n - 1) = true := by
  obtain ⟨m, rfl⟩ : ∃ m, n = m + 1 := ⟨n - 1, by omega⟩
  rw [nI_pred]
  exact mi_iw_at (by omega) (by omega)
set_option maxHeartbeats 2000000 in
theorem sp51 {d : Nat} {K : am_K} {ha : Nat → Nat → Int32} {hz : Int32} {a1 : Nat → Nat → Int32} {s1 : Nat → Int32} {t1 : UInt32} {a2 : Nat → Nat → Int32} {s2 : Nat → Int32} {t2 : UInt32} {al : Int32} {ma : Nat → Nat → Int32} {ms : Nat → Int32} {mt : UInt32} {ol : Nat → Int64} {od : Nat → UInt64} {n : Nat} (hn : hz = nI n) (hn64 : n < 64) (k : K none (am_W (am_u2 ha 9 (mp_close (ha 5) (ha 9) n)) hz a1 s1 t1 a2 s2 t2 al ma ms mt ol od)) : am_Run (d + 4) 51 [.ref 9] (am_W ha hz a1 s1 t1 a2 s2 t2 al ma ms mt ol od) K := by
  refine ⟨rfl, fun P hm hP => ?_⟩
  show P 0 [some (.ref 9), none] [] _ 0 0
  have h9 : ∀ i, i ≤ n → mp_find (ha 5) (ha 9) i = mp_find (ha 5) (ha 9) n → P 7 [some (.ref 9), some (.int (nI i - 1))] [] (am_W ha hz a1 s1 t1 a2 s2 t2 al ma ms mt ol od) 0 0 := by
    intro i
    induction i with
    | zero =>
      intro _ he
      have k9 : K none (am_W ha hz a1 s1 t1 a2 s2 t2 al ma ms mt ol od) := by
        have e : mp_close (ha 5) (ha 9) n = ha 9 := by unfold mp_close; rw [← he]; rfl
        rw [e] at k
        exact k
      refine s_iload_n hP t51_7 rfl ?_
      refine s_if_lt hP t51_8 (fun q8 => ?_) (fun q8 => absurd (by decide +kernel) q8)
      refine s_return_ hP t51_56 rfl ?_
      exact k9
    | succ i ih =>
      intro hi he
      rw [show nI (i + 1) - 1 = nI i from nI_pred i]
      refine s_iload_n hP t51_7 rfl ?_
      refine s_if_lt hP t51_8 (fun q8 => ?_) (fun q8 => ?_)
      · exact absurd q8 (nI_pos (by omega))
      · refine s_aload_n hP t51_11 rfl ?_
        refine s_iload_n hP t51_12 rfl ?_
        refine s_invokevirtual (bc' := 0) (bs' := 0) hP t51_13 rfl rfl rfl rfl rfl ?_
        refine sp55 rfl rfl (vp_in_nI (by omega) (by decide)) (by rw [hn]; exact mi_iw_blk (by omega) (by omega)) ?_
        rw [nI_clamp (by omega)]
        refine s_zeq hP t51_16 (fun q16 => ?_) (fun q16 => ?_)
        · refine s_iinc_1 (v := (-1)) hP t51_50 (by decide) (by exact rfl) ?_
          refine s_goto hP t51_53 ?_
          rw [mi_m1]
          exact ih (by omega) (by rw [← he, mp_find, if_neg (fun q => by rw [q.1] at q16; cases q16)])
        · refine s_aload_n hP t51_19 rfl ?_
          refine s_getfield hP t51_20 rfl rfl ?_
          refine s_iload_n hP t51_23 rfl ?_
          refine s_iaload hP t51_24 rfl (vp_in_nI (by omega) (by decide)) ?_
          rw [nI_clamp (by omega)]
          refine s_iconst (v := (-1)) hP t51_25 (by decide) ?_
          refine s_icmp_ne hP t51_26 (fun q26 => ?_) (fun q26 => ?_)
          · refine s_iinc_1 (v := (-1)) hP t51_50 (by decide) (by exact rfl) ?_
            refine s_goto hP t51_53 ?_
            rw [mi_m1]
            exact ih (by omega) (by rw [← he, mp_find, if_neg (fun q => q26 q.2)])
          · refine s_aload_n hP t51_29 rfl ?_
            refine s_getfield hP t51_30 rfl rfl ?_
            refine s_iload_n hP t51_33 rfl ?_
            refine s_aload_n hP t51_34 rfl ?_
            refine s_getfield hP t51_35 rfl rfl ?_
            refine s_iastore hP t51_38 rfl (vp_in_nI (by omega) (by decide)) ?_
            rw [nI_clamp (by omega)]
            refine s_aload_n hP t51_39 rfl ?_
            refine s_getfield hP t51_40 rfl rfl ?_
            refine s_aload_n hP t51_43 rfl ?_
            refine s_getfield hP t51_44 rfl rfl ?_
            refine s_iload_n hP t51_47 rfl ?_
            refine s_iastore hP t51_48 rfl (by rw [hn]; exact vp_in_nI hn64 (by decide)) ?_
            rw [show hz.toNatClampNeg = n by rw [hn]; exact nI_clamp (by omega)]
            refine s_return_ hP t51_49 rfl ?_
            have e : mp_close (ha 5) (ha 9) n = upd (upd (ha 9) i (nI n)) n (nI i) := by
              unfold mp_close
              rw [← he, mp_find, if_pos ⟨q16, q26⟩]
            rw [e] at k
            subst hn
            exact k
  refine s_aload_n hP t51_0 rfl ?_
  refine s_getfield hP t51_1 rfl rfl ?_
  refine s_iconst (v := 1) hP t51_4 (by decide) ?_
  refine s_isub hP t51_5 ?_
  refine s_istore_n_1 hP t51_6 (by exact rfl) ?_
  rw [hn]
  rw [hn] at h9
  exact h9 n (Nat.le_refl _) rfl
def mp_app (ha : Nat → Nat → Int32) (n : Nat) (x y z u : Int32) : Nat → Nat → Int32 :=
  am_u2 (am_u2 (am_u2 (am_u2 (am_u2 ha 5 (upd (ha 5) n x)) 6 (upd (ha 6) n y)) 7 (upd (ha 7) n z)) 8 (upd (ha 8) n u)) 9 (if x = 101 then mp_close (upd (ha 5) n x) (upd (ha 9) n (-1)) n else upd (ha 9) n (-1))
def mp_app9 (ha : Nat → Nat → Int32) (n : Nat) (x y z u : Int32) : Nat → Nat → Int32 := am_u2 (am_u2 (am_u2 (am_u2 (am_u2 ha 5 (upd (ha 5) n x)) 6 (upd (ha 6) n y)) 7 (upd (ha 7) n z)) 8 (upd (ha 8) n u)) 9 (upd (ha 9) n (-1))
set_option maxHeartbeats 4000000 in
theorem sp50 {d : Nat} {K : am_K} {ha : Nat → Nat → Int32} {hz : Int32} {a1 : Nat → Nat → Int32} {s1 : Nat → Int32} {t1 : UInt32} {a2 : Nat → Nat → Int32} {s2 : Nat → Int32} {t2 : UInt32} {al : Int32} {ma : Nat → Nat → Int32} {ms : Nat → Int32} {mt : UInt32} {ol : Nat → Int64} {od : Nat → UInt64} {n : Nat} {x y z u : Int32} (hn : hz = nI n) (hn64 : n < 64) (k : K none (am_W (mp_app ha n x y z u) (nI (n + 1)) a1 s1 t1 a2 s2 t2 al ma ms mt ol od)) : am_Run (d + 5) 50 [.ref 9, .int x, .int y, .int z, .int u] (am_W ha hz a1 s1 t1 a2 s2 t2 al ma ms mt ol od) K := by
  refine ⟨rfl, fun P hm hP => ?_⟩
  show P 0 [some (.ref 9), some (.int x), some (.int y), some (.int z), some (.int u)] [] _ 0 0
  refine s_aload_n hP t50_0 rfl ?_
  refine s_getfield hP t50_1 rfl rfl ?_
  refine s_bipush (v := 64) hP t50_4 (by decide) ?_
  refine s_icmp_lt hP t50_6 (fun q6 => ?_) (fun q6 => ?_)
  · refine s_aload_n hP t50_10 rfl ?_
    refine s_getfield hP t50_11 rfl rfl ?_
    refine s_aload_n hP t50_14 rfl ?_
    refine s_getfield hP t50_15 rfl rfl ?_
    refine s_iload_n hP t50_18 rfl ?_
    refine s_iastore hP t50_19 rfl (by rw [hn]; exact vp_in_nI hn64 (by decide)) ?_
    rw [show hz.toNatClampNeg = n by rw [hn]; exact nI_clamp (by omega)]
    refine s_aload_n hP t50_20 rfl ?_
    refine s_getfield hP t50_21 rfl rfl ?_
    refine s_aload_n hP t50_24 rfl ?_
    refine s_getfield hP t50_25 rfl rfl ?_
    refine s_iload_n hP t50_28 rfl ?_
    refine s_iastore hP t50_29 rfl (by rw [hn]; exact vp_in_nI hn64 (by decide)) ?_
    rw [show hz.toNatClampNeg = n by rw [hn]; exact nI_clamp (by omega)]
    refine s_aload_n hP t50_30 rfl ?_
    refine s_getfield hP t50_31 rfl rfl ?_
    refine s_aload_n hP t50_34 rfl ?_
    refine s_getfield hP t50_35 rfl rfl ?_
    refine s_iload_n hP t50_38 rfl ?_
    refine s_iastore hP t50_39 rfl (by rw [hn]; exact vp_in_nI hn64 (by decide)) ?_
    rw [show hz.toNatClampNeg = n by rw [hn]; exact nI_clamp (by omega)]
    refine s_aload_n hP t50_40 rfl ?_
    refine s_getfield hP t50_41 rfl rfl ?_
    refine s_aload_n hP t50_44 rfl ?_
    refine s_getfield hP t50_45 rfl rfl ?_
    refine s_iload hP t50_48 rfl ?_
    refine s_iastore hP t50_50 rfl (by rw [hn]; exact vp_in_nI hn64 (by decide)) ?_
    rw [show hz.toNatClampNeg = n by rw [hn]; exact nI_clamp (by omega)]
    refine s_aload_n hP t50_51 rfl ?_
    refine s_getfield hP t50_52 rfl rfl ?_
    refine s_aload_n hP t50_55 rfl ?_
    refine s_getfield hP t50_56 rfl rfl ?_
    refine s_iconst (v := (-1)) hP t50_59 (by decide) ?_
    refine s_iastore hP t50_60 rfl (by rw [hn]; exact vp_in_nI hn64 (by decide)) ?_
    rw [show hz.toNatClampNeg = n by rw [hn]; exact nI_clamp (by omega)]
    refine s_iload_n hP t50_61 rfl ?_
    refine s_bipush (v := 101) hP t50_62 (by decide) ?_
    refine s_icmp_ne hP t50_64 (fun q64 => ?_) (fun q64 => ?_)
    · refine s_aload_n hP t50_71 rfl ?_
      refine s_dup hP t50_72 rfl ?_
      refine s_getfield hP t50_73 rfl rfl ?_
      refine s_iconst (v := 1) hP t50_76 (by decide) ?_
      refine s_iadd hP t50_77 ?_
      refine s_putfield hP t50_78 rfl rfl rfl rfl ?_
      refine s_return_ hP t50_81 rfl ?_
      subst hn
      rw [mp_app, if_neg q64] at k
      rw [show nI (n + 1) = nI n + 1 from nI_succ n] at k
      exact k
    · refine s_aload_n hP t50_67 rfl ?_
      refine s_invokevirtual (bc' := 0) (bs' := 0) hP t50_68 rfl rfl rfl rfl rfl ?_
      refine sp51 (ha := mp_app9 ha n x y z u) (n := n) hn hn64 ?_
      refine s_aload_n hP t50_71 rfl ?_
      refine s_dup hP t50_72 rfl ?_
      refine s_getfield hP t50_73 rfl rfl ?_
      refine s_iconst (v := 1) hP t50_76 (by decide) ?_
      refine s_iadd hP t50_77 ?_
      refine s_putfield hP t50_78 rfl rfl rfl rfl ?_
      refine s_return_ hP t50_81 rfl ?_
      subst hn
      rw [mp_app, if_pos q64] at k
      rw [show nI (n + 1) = nI n + 1 from nI_succ n] at k
      exact k
  · exact absurd (by rw [hn]; exact nI_lt hn64 (by decide)) q6
def mp_rem (ha : Nat → Nat → Int32) (n : Nat) : Nat → Nat → Int32 := if mi_iw (ha 9 n) 0 (nI n - 1) = true then am_u2 ha 9 (upd (ha 9) (ha 9 n).toNatClampNeg (-1)) else ha
theorem mi_iw_lt {x : Int32} {n : Nat} (hn : n < 64) (h : mi_iw x 0 (nI n - 1) = true) : vp_in x 64 := by
  simp only [mi_iw, Bool.and_eq_true, decide_eq_true_eq] at h
  cases n with
  | zero => exact absurd (Int32.le_trans h.1 h.2) (by decide +kernel)
  | succ n =>
    rw [nI_pred] at h
    obtain ⟨j, hj, rfl⟩ := nI_of (x := x) (Int32.not_lt.mpr h.1)
    exact vp_in_nI (by have := (nI_leI hj (by omega)).mp h.2; omega) (by decide)
set_option maxHeartbeats 4000000 in
theorem sp52 {d : Nat} {K : am_K} {ha : Nat → Nat → Int32} {hz : Int32} {a1 : Nat → Nat → Int32} {s1 : Nat → Int32} {t1 : UInt32} {a2 : Nat → Nat → Int32} {s2 : Nat → Int32} {t2 : UInt32} {al : Int32} {ma : Nat → Nat → Int32} {ms : Nat → Int32} {mt : UInt32} {ol : Nat → Int64} {od : Nat → UInt64} {n : Nat} (hn : hz = nI (n + 1)) (hn64 : n < 64) (k : K none (am_W (mp_rem ha n) (nI n) a1 s1 t1 a2 s2 t2 al ma ms mt ol od)) : am_Run (d + 3) 52 [.ref 9] (am_W ha hz a1 s1 t1 a2 s2 t2 al ma ms mt ol od) K := by
  refine ⟨rfl, fun P hm hP => ?_⟩
  show P 0 [some (.ref 9), none] [] _ 0 0
  refine s_aload_n hP t52_0 rfl ?_
  refine s_getfield hP t52_1 rfl rfl ?_
  refine s_if_gt hP t52_4 (fun q4 => ?_) (fun q4 => ?_)
  · refine s_aload_n hP t52_8 rfl ?_
    refine s_dup hP t52_9 rfl ?_
    refine s_getfield hP t52_10 rfl rfl ?_
    refine s_iconst (v := 1) hP t52_13 (by decide) ?_
    refine s_isub hP t52_14 ?_
    rw [hn, nI_pred]
    refine s_putfield hP t52_15 rfl rfl rfl rfl ?_
    refine s_aload_n hP t52_18 rfl ?_
    refine s_getfield hP t52_19 rfl rfl ?_
    refine s_aload_n hP t52_22 rfl ?_
    refine s_getfield hP t52_23 rfl rfl ?_
    refine s_iaload hP t52_26 rfl (vp_in_nI (by omega) (by decide)) ?_
    rw [nI_clamp (by omega)]
    refine s_istore_n_1 hP t52_27 (by exact rfl) ?_
    refine s_aload_n hP t52_28 rfl ?_
    refine s_iload_n hP t52_29 rfl ?_
    refine s_invokevirtual (bc' := 0) (bs' := 0) hP t52_30 rfl rfl rfl rfl rfl ?_
    refine sp54 (sz := nI n) rfl ?_
    refine s_zeq hP t52_33 (fun q33 => ?_) (fun q33 => ?_)
    · refine s_return_ hP t52_43 rfl ?_
      rw [mp_rem, if_neg (by rw [q33]; decide)] at k
      exact k
    · refine s_aload_n hP t52_36 rfl ?_
      refine s_getfield hP t52_37 rfl rfl ?_
      refine s_iload_n hP t52_40 rfl ?_
      refine s_iconst (v := (-1)) hP t52_41 (by decide) ?_
      refine s_iastore hP t52_42 rfl (mi_iw_lt (by omega) q33) ?_
      refine s_return_ hP t52_43 rfl ?_
      rw [mp_rem, if_pos q33] at k
      exact k
  · exact absurd (by rw [hn]; exact nI_lt (a := 0) (by omega) (by omega)) q4
