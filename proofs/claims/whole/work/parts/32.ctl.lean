/-! THE CONTROLLER: begin, terms, tools. (rows by gen/sp9.py) -/
def mc_val (V : Nat → Int32) (x : Int32) : Int32 := if mi_iw (x - 100) 0 7 = true then V (x - 100).toNatClampNeg else x
def mc_cut (k : Int32) : Bool := decide (k = 108) || (decide (k = 100) || decide (k = 112))
def mc_worn (li us : Nat → Int32) (x : Int32) : Bool := mi_iw x 0 11 && decide (li x.toNatClampNeg ≤ us x.toNatClampNeg)
/-- the first one from B on, of n, that is so -/
def mc_first (p : Nat → Bool) : Nat → Nat → Option Nat
  | _, 0 => none
  | B, n + 1 => if p B = true then some B else mc_first p (B + 1) n
def mc_p (ha : Nat → Nat → Int32) (us : Nat → Int32) (A B j : Nat) : Bool := decide (ha 0 (4 * A + B) = ha 0 (4 * A + j)) && (decide (ha 1 (4 * A + B) = ha 1 (4 * A + j)) && !decide (ha 2 (4 * A + j) ≤ us (4 * A + j)))
def mc_take (ha : Nat → Nat → Int32) (us : Nat → Int32) (A B : Nat) : Int32 := match mc_first (mc_p ha us A B) B (4 - B) with
  | some j => nI (4 * A + j)
  | none => -1
def mc_told (ha : Nat → Nat → Int32) (k a b c : Int32) : Bool :=
  if k = 100 then decide (0 ≤ a) && decide (1 ≤ b)
  else if k = 112 then decide (0 ≤ a) && (decide (0 ≤ b) && decide (0 ≤ c))
  else if k = 116 then mi_slot a b && (mi_iw (4 * a + b) 0 11 && decide (¬ ha 0 (4 * a + b).toNatClampNeg = 0))
  else if k = 115 ∨ k = 109 then mi_iw a 0 1
  else if k = 102 then mi_iw a 1 50
  else if k = 111 then mi_iw a 0 3
  else if k = 118 ∨ k = 120 then mi_iw a 0 7
  else if k = 114 then mi_iw a 0 9
  else true
def mc_tool (ha : Nat → Nat → Int32) (us : Nat → Int32) (k a b slot spin : Int32) : Int32 :=
  if k = 116 then (if ¬ spin = 0 then 116 else if mc_take ha us a.toNatClampNeg b.toNatClampNeg = -1 then 119 else 45)
  else if mc_cut k = true ∧ ¬ slot = -1 ∧ mc_worn (ha 2) us slot = true then 119
  else if ((mc_cut k = true ∨ k = 120) ∧ slot = -1) ∨ (mc_cut k = true ∧ spin = 0) then 115 else 45
theorem mi_iw11 {n : Nat} (h : n ≤ 11) : mi_iw (nI n) 0 11 = true := mi_iw_at (N := 11) (by decide) h
theorem mi_slotN {A B : Nat} : 4 * nI A + nI B = nI (4 * A + B) := by
  rw [show (4 : Int32) = nI 4 from rfl, pk_mul, nI_add]
theorem mi_slot_nI {x y : Int32} (h : mi_slot x y = true) : ∃ A B, A < 3 ∧ B < 4 ∧ x = nI A ∧ y = nI B := by
  simp only [mi_slot, Bool.and_eq_true] at h
  obtain ⟨A, hA, rfl⟩ := mi_iw_nI (N := 2) rfl (by decide) h.1
  obtain ⟨B, hB, rfl⟩ := mi_iw_nI (N := 3) rfl (by decide) h.2
  exact ⟨A, B, by omega, by omega, rfl, rfl⟩
set_option maxHeartbeats 1000000 in
theorem sp17_1 {d : Nat} {K : am_K} {ha : Nat → Nat → Int32} {hz : Int32} {a1 : Nat → Nat → Int32} {s1 : Nat → Int32} {t1 : UInt32} {a2 : Nat → Nat → Int32} {s2 : Nat → Int32} {t2 : UInt32} {al : Int32} {ma : Nat → Nat → Int32} {ms : Nat → Int32} {mt : UInt32} {ol : Nat → Int64} {od : Nat → UInt64} {x : Int32} (k : K (some (.int (mc_val (a1 2) x))) (am_W ha hz a1 s1 t1 a2 s2 t2 al ma ms mt ol od)) : am_Run (d + 2) 17 [.ref 15, .int x] (am_W ha hz a1 s1 t1 a2 s2 t2 al ma ms mt ol od) K := by
  refine ⟨rfl, fun P hm hP => ?_⟩
  show P 0 [some (.ref 15), some (.int x), none] [] _ 0 0
  refine s_iload_n hP t17_0 rfl ?_
  refine s_bipush (v := 100) hP t17_1 (by decide) ?_
  refine s_isub hP t17_3 ?_
  refine s_istore_n_2 hP t17_4 (by exact rfl) ?_
  refine s_iload_n hP t17_5 rfl ?_
  refine s_iconst (v := 0) hP t17_6 (by decide) ?_
  refine s_bipush (v := 7) hP t17_7 (by decide) ?_
  refine s_invokestatic (bc' := 0) (bs' := 0) hP t17_9 rfl rfl rfl rfl rfl ?_
  refine sp84 ?_
  refine s_zeq hP t17_12 (fun q12 => ?_) (fun q12 => ?_)
  · refine s_iload_n hP t17_24 rfl ?_
    refine s_ireturn hP t17_25 rfl rfl ?_
    rw [mc_val, if_neg (by rw [q12]; decide)] at k
    exact k
  · refine s_aload_n hP t17_15 rfl ?_
    refine s_getfield hP t17_16 rfl rfl ?_
    refine s_iload_n hP t17_19 rfl ?_
    refine s_iaload hP t17_20 rfl (mi_iw_in (N := 7) rfl (by decide) q12) ?_
    refine s_goto hP t17_21 ?_
    refine s_ireturn hP t17_25 rfl rfl ?_
    rw [mc_val, if_pos q12] at k
    exact k
set_option maxHeartbeats 1000000 in
theorem sp21_1 {d : Nat} {K : am_K} {ha : Nat → Nat → Int32} {hz : Int32} {a1 : Nat → Nat → Int32} {s1 : Nat → Int32} {t1 : UInt32} {a2 : Nat → Nat → Int32} {s2 : Nat → Int32} {t2 : UInt32} {al : Int32} {ma : Nat → Nat → Int32} {ms : Nat → Int32} {mt : UInt32} {ol : Nat → Int64} {od : Nat → UInt64} (k : K (some (.int (am_b (mc_cut (s1 16))))) (am_W ha hz a1 s1 t1 a2 s2 t2 al ma ms mt ol od)) : am_Run (d + 1) 21 [.ref 15] (am_W ha hz a1 s1 t1 a2 s2 t2 al ma ms mt ol od) K := by
  refine ⟨rfl, fun P hm hP => ?_⟩
  show P 0 [some (.ref 15)] [] _ 0 0
  refine s_aload_n hP t21_0 rfl ?_
  refine s_getfield hP t21_1 rfl rfl ?_
  refine s_bipush (v := 108) hP t21_4 (by decide) ?_
  refine s_icmp_eq hP t21_6 (fun q6 => ?_) (fun q6 => ?_)
  · refine s_iconst (v := 1) hP t21_27 (by decide) ?_
    refine s_goto hP t21_28 ?_
    refine s_ireturn hP t21_32 rfl rfl ?_
    simp [am_b, mc_cut, q6] at k
    exact k
  · refine s_aload_n hP t21_9 rfl ?_
    refine s_getfield hP t21_10 rfl rfl ?_
    refine s_bipush (v := 100) hP t21_13 (by decide) ?_
    refine s_icmp_eq hP t21_15 (fun q15 => ?_) (fun q15 => ?_)
    · refine s_iconst (v := 1) hP t21_27 (by decide) ?_
      refine s_goto hP t21_28 ?_
      refine s_ireturn hP t21_32 rfl rfl ?_
      simp [am_b, mc_cut, q6, q15] at k
      exact k
    · refine s_aload_n hP t21_18 rfl ?_
      refine s_getfield hP t21_19 rfl rfl ?_
      refine s_bipush (v := 112) hP t21_22 (by decide) ?_
      refine s_icmp_ne hP t21_24 (fun q24 => ?_) (fun q24 => ?_)
      · refine s_iconst (v := 0) hP t21_31 (by decide) ?_
        refine s_ireturn hP t21_32 rfl rfl ?_
        simp [am_b, mc_cut, q6, q15, q24] at k
        exact k
      · refine s_iconst (v := 1) hP t21_27 (by decide) ?_
        refine s_goto hP t21_28 ?_
        refine s_ireturn hP t21_32 rfl rfl ?_
        simp [am_b, mc_cut, q6, q15, q24] at k
        exact k
set_option maxHeartbeats 1000000 in
theorem sp22_1 {d : Nat} {K : am_K} {ha : Nat → Nat → Int32} {hz : Int32} {a1 : Nat → Nat → Int32} {s1 : Nat → Int32} {t1 : UInt32} {a2 : Nat → Nat → Int32} {s2 : Nat → Int32} {t2 : UInt32} {al : Int32} {ma : Nat → Nat → Int32} {ms : Nat → Int32} {mt : UInt32} {ol : Nat → Int64} {od : Nat → UInt64} {x : Int32} (k : K (some (.int (am_b (mc_worn (ha 2) (a1 1) x)))) (am_W ha hz a1 s1 t1 a2 s2 t2 al ma ms mt ol od)) : am_Run (d + 2) 22 [.ref 15, .int x] (am_W ha hz a1 s1 t1 a2 s2 t2 al ma ms mt ol od) K := by
  refine ⟨rfl, fun P hm hP => ?_⟩
  show P 0 [some (.ref 15), some (.int x)] [] _ 0 0
  refine s_iload_n hP t22_0 rfl ?_
  refine s_iconst (v := 0) hP t22_1 (by decide) ?_
  refine s_bipush (v := 11) hP t22_2 (by decide) ?_
  refine s_invokestatic (bc' := 0) (bs' := 0) hP t22_4 rfl rfl rfl rfl rfl ?_
  refine sp84 ?_
  refine s_zeq hP t22_7 (fun q7 => ?_) (fun q7 => ?_)
  · refine s_iconst (v := 0) hP t22_35 (by decide) ?_
    refine s_ireturn hP t22_36 rfl rfl ?_
    simp [am_b, mc_worn, q7] at k
    exact k
  · refine s_aload_n hP t22_10 rfl ?_
    refine s_getfield hP t22_11 rfl rfl ?_
    refine s_iload_n hP t22_14 rfl ?_
    refine s_iaload hP t22_15 rfl (mi_iw_in (N := 11) rfl (by decide) q7) ?_
    refine s_aload_n hP t22_16 rfl ?_
    refine s_getfield hP t22_17 rfl rfl ?_
    refine s_getfield hP t22_20 rfl rfl ?_
    refine s_getfield hP t22_23 rfl rfl ?_
    refine s_iload_n hP t22_26 rfl ?_
    refine s_iaload hP t22_27 rfl (mi_iw_in (N := 11) rfl (by decide) q7) ?_
    refine s_icmp_lt hP t22_28 (fun q28 => ?_) (fun q28 => ?_)
    · refine s_iconst (v := 0) hP t22_35 (by decide) ?_
      refine s_ireturn hP t22_36 rfl rfl ?_
      simp [am_b, mc_worn, q7, q28, Int32.not_le.mpr q28] at k
      exact k
    · refine s_iconst (v := 1) hP t22_31 (by decide) ?_
      refine s_goto hP t22_32 ?_
      refine s_ireturn hP t22_36 rfl rfl ?_
      simp [am_b, mc_worn, q7, q28, Int32.not_lt.mp q28] at k
      exact k
set_option maxHeartbeats 2000000 in
theorem sp23_1 {d : Nat} {K : am_K} {ha : Nat → Nat → Int32} {hz : Int32} {a1 : Nat → Nat → Int32} {s1 : Nat → Int32} {t1 : UInt32} {a2 : Nat → Nat → Int32} {s2 : Nat → Int32} {t2 : UInt32} {al : Int32} {ma : Nat → Nat → Int32} {ms : Nat → Int32} {mt : UInt32} {ol : Nat → Int64} {od : Nat → UInt64} {A B : Nat} (hA : s1 17 = nI A) (hB : s1 18 = nI B) (hA3 : A < 3) (hB4 : B < 4) (k : K (some (.int (mc_take ha (a1 1) A B))) (am_W ha hz a1 s1 t1 a2 s2 t2 al ma ms mt ol od)) : am_Run (d + 3) 23 [.ref 15] (am_W ha hz a1 s1 t1 a2 s2 t2 al ma ms mt ol od) K := by
  refine ⟨rfl, fun P hm hP => ?_⟩
  show P 0 [some (.ref 15), none, none, none] [] _ 0 0
  have loop : ∀ (n j : Nat), j ≤ 4 → 5 ≤ j + n → mc_first (mc_p ha (a1 1) A B) j (4 - j) = mc_first (mc_p ha (a1 1) A B) B (4 - B) → P 17 [some (.ref 15), some (.int (nI (4 * A + B))), some (.int (nI j)), none] [] (am_W ha hz a1 s1 t1 a2 s2 t2 al ma ms mt ol od) 0 0 := by
    intro n
    induction n with
    | zero => intro j h3 h4; omega
    | succ n ih =>
      intro j h3 h4 he
      refine s_iload_n hP t23_17 rfl ?_
      refine s_iconst (v := 4) hP t23_18 (by decide) ?_
      refine s_icmp_ge hP t23_19 (fun q19 => ?_) (fun q19 => ?_)
      · have e19 : 4 ≤ j := mi_leN (by decide) (by omega) q19
        refine s_iconst (v := (-1)) hP t23_62 (by decide) ?_
        refine s_ireturn hP t23_63 rfl rfl ?_
        obtain rfl : j = 4 := by omega
        rw [mc_take, ← he] at k
        exact k
      · have e19 : j < 4 := mi_nleN (a := 4) (by decide) (by omega) q19
        refine s_aload_n hP t23_22 rfl ?_
        refine s_getfield hP t23_23 rfl rfl ?_
        refine s_iload_n hP t23_26 rfl ?_
        refine s_invokestatic (bc' := 0) (bs' := 0) hP t23_27 rfl rfl rfl rfl rfl ?_
        refine sp88 ?_
        rw [hA, mi_slotN]
        refine s_istore_n_3 hP t23_30 (by exact rfl) ?_
        refine s_aload_n hP t23_31 rfl ?_
        refine s_getfield hP t23_32 rfl rfl ?_
        refine s_getfield hP t23_35 rfl rfl ?_
        refine s_iload_n hP t23_38 rfl ?_
        refine s_iload_n hP t23_39 rfl ?_
        refine s_invokevirtual (bc' := 0) (bs' := 0) hP t23_40 rfl rfl rfl rfl rfl ?_
        refine sp60 rfl rfl rfl ?_
        refine s_zeq hP t23_43 (fun q43 => ?_) (fun q43 => ?_)
        · have e43 : mc_p ha (a1 1) A B j = false := by
            rw [mi_iw11 (n := 4 * A + B) (by omega), mi_iw11 (n := 4 * A + j) (by omega), nI_clamp (n := 4 * A + B) (by omega), nI_clamp (n := 4 * A + j) (by omega), Bool.true_and, Bool.true_and] at q43
            rw [mc_p, ← Bool.and_assoc, q43]; rfl
          refine s_iinc_2 (v := 1) hP t23_56 (by decide) (by exact rfl) ?_
          refine s_goto hP t23_59 ?_
          rw [nI_1]
          refine hm _ _ _ _ _ _ _ (by repeat (first | exact am_le_nil | apply am_le_cons | apply am_le_none)) (ih (j + 1) (by omega) (by omega) (by rw [← he, show 4 - j = (4 - (j + 1)) + 1 by omega, mc_first, if_neg (by rw [e43]; decide)]))
        · rw [mi_iw11 (n := 4 * A + B) (by omega), mi_iw11 (n := 4 * A + j) (by omega), nI_clamp (n := 4 * A + B) (by omega), nI_clamp (n := 4 * A + j) (by omega), Bool.true_and, Bool.true_and] at q43
          refine s_aload_n hP t23_46 rfl ?_
          refine s_iload_n hP t23_47 rfl ?_
          refine s_invokevirtual (bc' := 0) (bs' := 0) hP t23_48 rfl rfl rfl rfl rfl ?_
          refine sp22_1 ?_
          refine s_zne hP t23_51 (fun q51 => ?_) (fun q51 => ?_)
          · have e43 : mc_p ha (a1 1) A B j = false := by
              rw [mc_worn, mi_iw11 (n := 4 * A + j) (by omega), nI_clamp (n := 4 * A + j) (by omega), Bool.true_and] at q51
              rw [mc_p, ← Bool.and_assoc, q43, q51]; rfl
            refine s_iinc_2 (v := 1) hP t23_56 (by decide) (by exact rfl) ?_
            refine s_goto hP t23_59 ?_
            rw [nI_1]
            refine hm _ _ _ _ _ _ _ (by repeat (first | exact am_le_nil | apply am_le_cons | apply am_le_none)) (ih (j + 1) (by omega) (by omega) (by rw [← he, show 4 - j = (4 - (j + 1)) + 1 by omega, mc_first, if_neg (by rw [e43]; decide)]))
          · have e43 : mc_p ha (a1 1) A B j = true := by
              rw [mc_worn, mi_iw11 (n := 4 * A + j) (by omega), nI_clamp (n := 4 * A + j) (by omega), Bool.true_and] at q51
              rw [mc_p, ← Bool.and_assoc, q43, q51]; rfl
            refine s_iload_n hP t23_54 rfl ?_
            refine s_ireturn hP t23_55 rfl rfl ?_
            rw [mc_take, ← he, show 4 - j = (4 - (j + 1)) + 1 by omega, mc_first, if_pos e43] at k
            exact k
  refine s_aload_n hP t23_0 rfl ?_
  refine s_getfield hP t23_1 rfl rfl ?_
  refine s_aload_n hP t23_4 rfl ?_
  refine s_getfield hP t23_5 rfl rfl ?_
  refine s_invokestatic (bc' := 0) (bs' := 0) hP t23_8 rfl rfl rfl rfl rfl ?_
  refine sp88 ?_
  rw [hA, hB, mi_slotN]
  refine s_istore_n_1 hP t23_11 (by exact rfl) ?_
  refine s_aload_n hP t23_12 rfl ?_
  refine s_getfield hP t23_13 rfl rfl ?_
  rw [hB]
  refine s_istore_n_2 hP t23_16 (by exact rfl) ?_
  exact loop 5 B (by omega) (by omega) rfl
theorem mi_kind_cases {x : Int32} (h : mi_kind x = true) : x = 103 ∨ x = 108 ∨ x = 100 ∨ x = 112 ∨ x = 116 ∨ x = 115 ∨ x = 102 ∨ x = 109 ∨ x = 111 ∨ x = 118 ∨ x = 120 ∨ x = 114 ∨ x = 105 ∨ x = 101 ∨ x = 113 := by
  simpa only [mi_kind, decide_eq_true_eq] using h
set_option maxHeartbeats 4000000 in
theorem sp18_1 {d : Nat} {K : am_K} {ha : Nat → Nat → Int32} {hz : Int32} {a1 : Nat → Nat → Int32} {s1 : Nat → Int32} {t1 : UInt32} {a2 : Nat → Nat → Int32} {s2 : Nat → Int32} {t2 : UInt32} {al : Int32} {ma : Nat → Nat → Int32} {ms : Nat → Int32} {mt : UInt32} {ol : Nat → Int64} {od : Nat → UInt64} (hk : mi_kind (s1 16) = true) (k : K (some (.int (am_b (mc_told ha (s1 16) (s1 17) (s1 18) (s1 19))))) (am_W ha hz a1 s1 t1 a2 s2 t2 al ma ms mt ol od)) : am_Run (d + 3) 18 [.ref 15] (am_W ha hz a1 s1 t1 a2 s2 t2 al ma ms mt ol od) K := by
  refine ⟨rfl, fun P hm hP => ?_⟩
  show P 0 [some (.ref 15)] [] _ 0 0
  refine s_aload_n hP t18_0 rfl ?_
  refine s_getfield hP t18_1 rfl rfl ?_
  rcases mi_kind_cases hk with hk9 | hk9 | hk9 | hk9 | hk9 | hk9 | hk9 | hk9 | hk9 | hk9 | hk9 | hk9 | hk9 | hk9 | hk9
  · rw [hk9]
    refine s_swin (off := 245) (tgt := 249) hP t18_4 (by decide) (by decide) rfl (by decide) ?_
    refine s_iconst (v := 1) hP t18_249 (by decide) ?_
    refine s_ireturn hP t18_250 rfl rfl ?_
    simp only [hk9, mc_told] at k
    simp [am_b] at k
    exact k
  · rw [hk9]
    refine s_swin (off := 245) (tgt := 249) hP t18_4 (by decide) (by decide) rfl (by decide) ?_
    refine s_iconst (v := 1) hP t18_249 (by decide) ?_
    refine s_ireturn hP t18_250 rfl rfl ?_
    simp only [hk9, mc_told] at k
    simp [am_b] at k
    exact k
  · rw [hk9]
    refine s_swin (off := 100) (tgt := 104) hP t18_4 (by decide) (by decide) rfl (by decide) ?_
    refine s_aload_n hP t18_104 rfl ?_
    refine s_getfield hP t18_105 rfl rfl ?_
    refine s_if_lt hP t18_108 (fun q108 => ?_) (fun q108 => ?_)
    · refine s_iconst (v := 0) hP t18_123 (by decide) ?_
      refine s_ireturn hP t18_124 rfl rfl ?_
      simp only [hk9, mc_told] at k
      simp [am_b, q108, Int32.not_le.mpr q108] at k
      exact k
    · refine s_aload_n hP t18_111 rfl ?_
      refine s_getfield hP t18_112 rfl rfl ?_
      refine s_iconst (v := 1) hP t18_115 (by decide) ?_
      refine s_icmp_lt hP t18_116 (fun q116 => ?_) (fun q116 => ?_)
      · refine s_iconst (v := 0) hP t18_123 (by decide) ?_
        refine s_ireturn hP t18_124 rfl rfl ?_
        simp only [hk9, mc_told] at k
        simp [am_b, q108, Int32.not_lt.mp q108, q116, Int32.not_le.mpr q116] at k
        exact k
      · refine s_iconst (v := 1) hP t18_119 (by decide) ?_
        refine s_goto hP t18_120 ?_
        refine s_ireturn hP t18_124 rfl rfl ?_
        simp only [hk9, mc_told] at k
        simp [am_b, q108, Int32.not_lt.mp q108, q116, Int32.not_lt.mp q116] at k
        exact k
  · rw [hk9]
    refine s_swin (off := 121) (tgt := 125) hP t18_4 (by decide) (by decide) rfl (by decide) ?_
    refine s_aload_n hP t18_125 rfl ?_
    refine s_getfield hP t18_126 rfl rfl ?_
    refine s_if_lt hP t18_129 (fun q129 => ?_) (fun q129 => ?_)
    · refine s_iconst (v := 0) hP t18_150 (by decide) ?_
      refine s_ireturn hP t18_151 rfl rfl ?_
      simp only [hk9, mc_told] at k
      simp [am_b, q129, Int32.not_le.mpr q129] at k
      exact k
    · refine s_aload_n hP t18_132 rfl ?_
      refine s_getfield hP t18_133 rfl rfl ?_
      refine s_if_lt hP t18_136 (fun q136 => ?_) (fun q136 => ?_)
      · refine s_iconst (v := 0) hP t18_150 (by decide) ?_
        refine s_ireturn hP t18_151 rfl rfl ?_
        simp only [hk9, mc_told] at k
        simp [am_b, q129, Int32.not_lt.mp q129, q136, Int32.not_le.mpr q136] at k
        exact k
      · refine s_aload_n hP t18_139 rfl ?_
        refine s_getfield hP t18_140 rfl rfl ?_
        refine s_if_lt hP t18_143 (fun q143 => ?_) (fun q143 => ?_)
        · refine s_iconst (v := 0) hP t18_150 (by decide) ?_
          refine s_ireturn hP t18_151 rfl rfl ?_
          simp only [hk9, mc_told] at k
          simp [am_b, q129, Int32.not_lt.mp q129, q136, Int32.not_lt.mp q136, q143, Int32.not_le.mpr q143] at k
          exact k
        · refine s_iconst (v := 1) hP t18_146 (by decide) ?_
          refine s_goto hP t18_147 ?_
          refine s_ireturn hP t18_151 rfl rfl ?_
          simp only [hk9, mc_told] at k
          simp [am_b, q129, Int32.not_lt.mp q129, q136, Int32.not_lt.mp q136, q143, Int32.not_lt.mp q143] at k
          exact k
  · rw [hk9]
    refine s_swin (off := 148) (tgt := 152) hP t18_4 (by decide) (by decide) rfl (by decide) ?_
    refine s_aload_n hP t18_152 rfl ?_
    refine s_getfield hP t18_153 rfl rfl ?_
    refine s_aload_n hP t18_156 rfl ?_
    refine s_getfield hP t18_157 rfl rfl ?_
    refine s_invokestatic (bc' := 0) (bs' := 0) hP t18_160 rfl rfl rfl rfl rfl ?_
    refine sp87 ?_
    refine s_zeq hP t18_163 (fun q163 => ?_) (fun q163 => ?_)
    · refine s_iconst (v := 0) hP t18_194 (by decide) ?_
      refine s_ireturn hP t18_195 rfl rfl ?_
      rw [hk9, show mc_told ha 116 (s1 17) (s1 18) (s1 19) = (mi_slot (s1 17) (s1 18) && (mi_iw (4 * s1 17 + s1 18) 0 11 && decide (¬ ha 0 (4 * s1 17 + s1 18).toNatClampNeg = 0))) from rfl, q163, Bool.false_and] at k
      exact k
    · refine s_aload_n hP t18_166 rfl ?_
      refine s_getfield hP t18_167 rfl rfl ?_
      refine s_getfield hP t18_170 rfl rfl ?_
      refine s_aload_n hP t18_173 rfl ?_
      refine s_getfield hP t18_174 rfl rfl ?_
      refine s_aload_n hP t18_177 rfl ?_
      refine s_getfield hP t18_178 rfl rfl ?_
      refine s_invokestatic (bc' := 0) (bs' := 0) hP t18_181 rfl rfl rfl rfl rfl ?_
      refine sp88 ?_
      refine s_invokevirtual (bc' := 0) (bs' := 0) hP t18_184 rfl rfl rfl rfl rfl ?_
      refine sp58 rfl rfl rfl ?_
      refine s_zeq hP t18_187 (fun q187 => ?_) (fun q187 => ?_)
      · refine s_iconst (v := 0) hP t18_194 (by decide) ?_
        refine s_ireturn hP t18_195 rfl rfl ?_
        rw [hk9, show mc_told ha 116 (s1 17) (s1 18) (s1 19) = (mi_slot (s1 17) (s1 18) && (mi_iw (4 * s1 17 + s1 18) 0 11 && decide (¬ ha 0 (4 * s1 17 + s1 18).toNatClampNeg = 0))) from rfl, q163, Bool.true_and, q187] at k
        exact k
      · refine s_iconst (v := 1) hP t18_190 (by decide) ?_
        refine s_goto hP t18_191 ?_
        refine s_ireturn hP t18_195 rfl rfl ?_
        rw [hk9, show mc_told ha 116 (s1 17) (s1 18) (s1 19) = (mi_slot (s1 17) (s1 18) && (mi_iw (4 * s1 17 + s1 18) 0 11 && decide (¬ ha 0 (4 * s1 17 + s1 18).toNatClampNeg = 0))) from rfl, q163, Bool.true_and, q187] at k
        exact k
  · rw [hk9]
    refine s_swin (off := 192) (tgt := 196) hP t18_4 (by decide) (by decide) rfl (by decide) ?_
    refine s_aload_n hP t18_196 rfl ?_
    refine s_getfield hP t18_197 rfl rfl ?_
    refine s_iconst (v := 0) hP t18_200 (by decide) ?_
    refine s_iconst (v := 1) hP t18_201 (by decide) ?_
    refine s_invokestatic (bc' := 0) (bs' := 0) hP t18_202 rfl rfl rfl rfl rfl ?_
    refine sp84 ?_
    refine s_ireturn hP t18_205 rfl (am_nar_b _) ?_
    rw [hk9] at k
    exact k
  · rw [hk9]
    refine s_swin (off := 202) (tgt := 206) hP t18_4 (by decide) (by decide) rfl (by decide) ?_
    refine s_aload_n hP t18_206 rfl ?_
    refine s_getfield hP t18_207 rfl rfl ?_
    refine s_iconst (v := 1) hP t18_210 (by decide) ?_
    refine s_bipush (v := 50) hP t18_211 (by decide) ?_
    refine s_invokestatic (bc' := 0) (bs' := 0) hP t18_213 rfl rfl rfl rfl rfl ?_
    refine sp84 ?_
    refine s_ireturn hP t18_216 rfl (am_nar_b _) ?_
    rw [hk9] at k
    exact k
  · rw [hk9]
    refine s_swin (off := 192) (tgt := 196) hP t18_4 (by decide) (by decide) rfl (by decide) ?_
    refine s_aload_n hP t18_196 rfl ?_
    refine s_getfield hP t18_197 rfl rfl ?_
    refine s_iconst (v := 0) hP t18_200 (by decide) ?_
    refine s_iconst (v := 1) hP t18_201 (by decide) ?_
    refine s_invokestatic (bc' := 0) (bs' := 0) hP t18_202 rfl rfl rfl rfl rfl ?_
    refine sp84 ?_
    refine s_ireturn hP t18_205 rfl (am_nar_b _) ?_
    rw [hk9] at k
    exact k
  · rw [hk9]
    refine s_swin (off := 213) (tgt := 217) hP t18_4 (by decide) (by decide) rfl (by decide) ?_
    refine s_aload_n hP t18_217 rfl ?_
    refine s_getfield hP t18_218 rfl rfl ?_
    refine s_iconst (v := 0) hP t18_221 (by decide) ?_
    refine s_iconst (v := 3) hP t18_222 (by decide) ?_
    refine s_invokestatic (bc' := 0) (bs' := 0) hP t18_223 rfl rfl rfl rfl rfl ?_
    refine sp84 ?_
    refine s_ireturn hP t18_226 rfl (am_nar_b _) ?_
    rw [hk9] at k
    exact k
  · rw [hk9]
    refine s_swin (off := 223) (tgt := 227) hP t18_4 (by decide) (by decide) rfl (by decide) ?_
    refine s_aload_n hP t18_227 rfl ?_
    refine s_getfield hP t18_228 rfl rfl ?_
    refine s_iconst (v := 0) hP t18_231 (by decide) ?_
    refine s_bipush (v := 7) hP t18_232 (by decide) ?_
    refine s_invokestatic (bc' := 0) (bs' := 0) hP t18_234 rfl rfl rfl rfl rfl ?_
    refine sp84 ?_
    refine s_ireturn hP t18_237 rfl (am_nar_b _) ?_
    rw [hk9] at k
    exact k
  · rw [hk9]
    refine s_swin (off := 223) (tgt := 227) hP t18_4 (by decide) (by decide) rfl (by decide) ?_
    refine s_aload_n hP t18_227 rfl ?_
    refine s_getfield hP t18_228 rfl rfl ?_
    refine s_iconst (v := 0) hP t18_231 (by decide) ?_
    refine s_bipush (v := 7) hP t18_232 (by decide) ?_
    refine s_invokestatic (bc' := 0) (bs' := 0) hP t18_234 rfl rfl rfl rfl rfl ?_
    refine sp84 ?_
    refine s_ireturn hP t18_237 rfl (am_nar_b _) ?_
    rw [hk9] at k
    exact k
  · rw [hk9]
    refine s_swin (off := 234) (tgt := 238) hP t18_4 (by decide) (by decide) rfl (by decide) ?_
    refine s_aload_n hP t18_238 rfl ?_
    refine s_getfield hP t18_239 rfl rfl ?_
    refine s_iconst (v := 0) hP t18_242 (by decide) ?_
    refine s_bipush (v := 9) hP t18_243 (by decide) ?_
    refine s_invokestatic (bc' := 0) (bs' := 0) hP t18_245 rfl rfl rfl rfl rfl ?_
    refine sp84 ?_
    refine s_ireturn hP t18_248 rfl (am_nar_b _) ?_
    rw [hk9] at k
    exact k
  · rw [hk9]
    refine s_swin (off := 245) (tgt := 249) hP t18_4 (by decide) (by decide) rfl (by decide) ?_
    refine s_iconst (v := 1) hP t18_249 (by decide) ?_
    refine s_ireturn hP t18_250 rfl rfl ?_
    simp only [hk9, mc_told] at k
    simp [am_b] at k
    exact k
  · rw [hk9]
    refine s_swin (off := 245) (tgt := 249) hP t18_4 (by decide) (by decide) rfl (by decide) ?_
    refine s_iconst (v := 1) hP t18_249 (by decide) ?_
    refine s_ireturn hP t18_250 rfl rfl ?_
    simp only [hk9, mc_told] at k
    simp [am_b] at k
    exact k
  · rw [hk9]
    refine s_swin (off := 245) (tgt := 249) hP t18_4 (by decide) (by decide) rfl (by decide) ?_
    refine s_iconst (v := 1) hP t18_249 (by decide) ?_
    refine s_ireturn hP t18_250 rfl rfl ?_
    simp only [hk9, mc_told] at k
    simp [am_b] at k
    exact k
def mc_clip (x : Int32) : Int32 := mp_mx (-50) (if 50 ≤ x then 50 else x)
set_option maxHeartbeats 1000000 in
theorem sp36_1 {d : Nat} {K : am_K} {ha : Nat → Nat → Int32} {hz : Int32} {a1 : Nat → Nat → Int32} {s1 : Nat → Int32} {t1 : UInt32} {a2 : Nat → Nat → Int32} {s2 : Nat → Int32} {t2 : UInt32} {al : Int32} {ma : Nat → Nat → Int32} {ms : Nat → Int32} {mt : UInt32} {ol : Nat → Int64} {od : Nat → UInt64} {x y : Int32} (hi : mi_iw x 0 7 = true) (k : K none (am_W ha hz (am_u2 a1 2 (upd (a1 2) x.toNatClampNeg (mc_clip y))) s1 t1 a2 s2 t2 al ma ms mt ol od)) : am_Run (d + 2) 36 [.ref 15, .int x, .int y] (am_W ha hz a1 s1 t1 a2 s2 t2 al ma ms mt ol od) K := by
  refine ⟨rfl, fun P hm hP => ?_⟩
  show P 0 [some (.ref 15), some (.int x), some (.int y)] [] _ 0 0
  refine s_iload_n hP t36_0 rfl ?_
  refine s_iconst (v := 0) hP t36_1 (by decide) ?_
  refine s_bipush (v := 7) hP t36_2 (by decide) ?_
  refine s_invokestatic (bc' := 0) (bs' := 0) hP t36_4 rfl rfl rfl rfl rfl ?_
  refine sp84 ?_
  rw [hi]
  refine s_zeq hP t36_7 (fun q7 => ?_) (fun q7 => ?_)
  · cases q7
  · refine s_aload_n hP t36_10 rfl ?_
    refine s_getfield hP t36_11 rfl rfl ?_
    refine s_iload_n hP t36_14 rfl ?_
    refine s_bipush (v := (-50)) hP t36_15 (by decide) ?_
    refine s_bipush (v := 50) hP t36_17 (by decide) ?_
    refine s_iload_n hP t36_19 rfl ?_
    refine s_invokestatic (bc' := 0) (bs' := 0) hP t36_20 rfl rfl rfl rfl rfl ?_
    refine sp160 ?_
    refine s_invokestatic (bc' := 0) (bs' := 0) hP t36_23 rfl rfl rfl rfl rfl ?_
    refine sp159 ?_
    refine s_iastore hP t36_26 rfl (mi_iw_in (N := 7) rfl (by decide) hi) ?_
    refine s_return_ hP t36_27 rfl ?_
    exact k
set_option maxHeartbeats 1000000 in
theorem sp30_1 {d : Nat} {K : am_K} {ha : Nat → Nat → Int32} {hz : Int32} {a1 : Nat → Nat → Int32} {s1 : Nat → Int32} {t1 : UInt32} {a2 : Nat → Nat → Int32} {s2 : Nat → Int32} {t2 : UInt32} {al : Int32} {ma : Nat → Nat → Int32} {ms : Nat → Int32} {mt : UInt32} {ol : Nat → Int64} {od : Nat → UInt64} (k0 : mi_iw (s1 10) 0 11 = false → K none (am_W ha hz a1 s1 t1 a2 s2 t2 al ma ms mt ol od)) (k1 : mi_iw (s1 10) 0 11 = true → K none (am_W ha hz a1 (am_u1 (am_u1 s1 21 (ha 0 (s1 10).toNatClampNeg)) 22 (ha 1 (s1 10).toNatClampNeg)) t1 a2 s2 t2 al ma ms mt ol od)) : am_Run (d + 2) 30 [.ref 15] (am_W ha hz a1 s1 t1 a2 s2 t2 al ma ms mt ol od) K := by
  refine ⟨rfl, fun P hm hP => ?_⟩
  show P 0 [some (.ref 15)] [] _ 0 0
  refine s_aload_n hP t30_0 rfl ?_
  refine s_getfield hP t30_1 rfl rfl ?_
  refine s_iconst (v := 0) hP t30_4 (by decide) ?_
  refine s_bipush (v := 11) hP t30_5 (by decide) ?_
  refine s_invokestatic (bc' := 0) (bs' := 0) hP t30_7 rfl rfl rfl rfl rfl ?_
  refine sp84 ?_
  refine s_zeq hP t30_10 (fun q10 => ?_) (fun q10 => ?_)
  · refine s_return_ hP t30_50 rfl ?_
    exact k0 q10
  · refine s_aload_n hP t30_13 rfl ?_
    refine s_getfield hP t30_14 rfl rfl ?_
    refine s_aload_n hP t30_17 rfl ?_
    refine s_getfield hP t30_18 rfl rfl ?_
    refine s_getfield hP t30_21 rfl rfl ?_
    refine s_getfield hP t30_24 rfl rfl ?_
    refine s_aload_n hP t30_27 rfl ?_
    refine s_getfield hP t30_28 rfl rfl ?_
    refine s_caload hP t30_31 rfl (mi_iw_in (N := 11) rfl (by decide) q10) ?_
    refine s_aload_n hP t30_32 rfl ?_
    refine s_getfield hP t30_33 rfl rfl ?_
    refine s_getfield hP t30_36 rfl rfl ?_
    refine s_getfield hP t30_39 rfl rfl ?_
    refine s_aload_n hP t30_42 rfl ?_
    refine s_getfield hP t30_43 rfl rfl ?_
    refine s_iaload hP t30_46 rfl (mi_iw_in (N := 11) rfl (by decide) q10) ?_
    refine s_invokevirtual (bc' := 0) (bs' := 0) hP t30_47 rfl rfl rfl rfl rfl ?_
    refine sp62_1 ?_
    refine s_return_ hP t30_50 rfl ?_
    exact k1 q10
def mc_s0 (s : Nat → Int32) : Nat → Int32 := am_u1 (am_u1 (am_u1 (am_u1 (am_u1 (am_u1 (am_u1 (am_u1 s 8 0) 9 0) 10 (-1)) 12 10) 13 0) 14 0) 15 0) 16 0
def mc_a0 (a : Nat → Nat → Int32) (g u v : Nat → Int32) : Nat → Nat → Int32 := am_u2 (am_u2 (am_u2 (am_u2 a 0 g) 1 u) 2 v) 3 (mp_3 (a 3) 0 0 0 9)
set_option maxHeartbeats 4000000 in
theorem sp11_1 {d : Nat} {K : am_K} {ha : Nat → Nat → Int32} {hz : Int32} {a1 : Nat → Nat → Int32} {s1 : Nat → Int32} {t1 : UInt32} {a2 : Nat → Nat → Int32} {s2 : Nat → Int32} {t2 : UInt32} {al : Int32} {ma : Nat → Nat → Int32} {ms : Nat → Int32} {mt : UInt32} {ol : Nat → Int64} {od : Nat → UInt64} (k : ∀ g u v : Nat → Int32, (∀ j, j < 72 → g j = 65535) → (∀ j, j < 12 → u j = 0) → (∀ j, j < 8 → v j = 0) → K none (am_W ha hz (mc_a0 a1 g u v) (mc_s0 s1) FP.fconst0 a2 s2 t2 al ma ms mt ol od)) : am_Run (d + 2) 11 [.ref 15] (am_W ha hz a1 s1 t1 a2 s2 t2 al ma ms mt ol od) K := by
  refine ⟨rfl, fun P hm hP => ?_⟩
  show P 0 [some (.ref 15), none] [] _ 0 0
  refine s_aload_n hP t11_0 rfl ?_
  refine s_getfield hP t11_1 rfl rfl ?_
  refine s_invokevirtual (bc' := 0) (bs' := 0) hP t11_4 rfl rfl rfl rfl rfl ?_
  refine sp1 rfl rfl rfl (by decide) (fun g hg => ?_)
  have after2 : ∀ (u v : Nat → Int32), (∀ j, j < 12 → u j = 0) → (∀ j, j < 8 → v j = 0) → P 49 [some (.ref 15), some (.int (nI 8))] [] (am_W ha hz (am_u2 (am_u2 (am_u2 a1 0 g) 1 u) 2 v) s1 t1 a2 s2 t2 al ma ms mt ol od) 0 0 := by
    intro u v hu hv
    refine s_aload_n hP t11_49 rfl ?_
    refine s_getfield hP t11_50 rfl rfl ?_
    refine s_iconst (v := 0) hP t11_53 (by decide) ?_
    refine s_iconst (v := 0) hP t11_54 (by decide) ?_
    refine s_iastore hP t11_55 rfl (vp_in_nI (n := 0) (by decide) (by decide)) ?_
    refine s_aload_n hP t11_56 rfl ?_
    refine s_getfield hP t11_57 rfl rfl ?_
    refine s_iconst (v := 1) hP t11_60 (by decide) ?_
    refine s_iconst (v := 0) hP t11_61 (by decide) ?_
    refine s_iastore hP t11_62 rfl (vp_in_nI (n := 1) (by decide) (by decide)) ?_
    refine s_aload_n hP t11_63 rfl ?_
    refine s_getfield hP t11_64 rfl rfl ?_
    refine s_iconst (v := 2) hP t11_67 (by decide) ?_
    refine s_bipush (v := 9) hP t11_68 (by decide) ?_
    refine s_iastore hP t11_70 rfl (vp_in_nI (n := 2) (by decide) (by decide)) ?_
    refine s_aload_n hP t11_71 rfl ?_
    refine s_iconst (v := 0) hP t11_72 (by decide) ?_
    refine s_putfield hP t11_73 rfl rfl rfl rfl ?_
    refine s_aload_n hP t11_76 rfl ?_
    refine s_iconst (v := 0) hP t11_77 (by decide) ?_
    refine s_putfield hP t11_78 rfl rfl rfl rfl ?_
    refine s_aload_n hP t11_81 rfl ?_
    refine s_iconst (v := (-1)) hP t11_82 (by decide) ?_
    refine s_putfield hP t11_83 rfl rfl rfl rfl ?_
    refine s_aload_n hP t11_86 rfl ?_
    refine s_fconst0 hP t11_87 ?_
    refine s_putfield hP t11_88 rfl rfl rfl rfl ?_
    refine s_aload_n hP t11_91 rfl ?_
    refine s_bipush (v := 10) hP t11_92 (by decide) ?_
    refine s_putfield hP t11_94 rfl rfl rfl rfl ?_
    refine s_aload_n hP t11_97 rfl ?_
    refine s_iconst (v := 0) hP t11_98 (by decide) ?_
    refine s_putfield hP t11_99 rfl rfl rfl rfl ?_
    refine s_aload_n hP t11_102 rfl ?_
    refine s_iconst (v := 0) hP t11_103 (by decide) ?_
    refine s_putfield hP t11_104 rfl rfl rfl rfl ?_
    refine s_aload_n hP t11_107 rfl ?_
    refine s_iconst (v := 0) hP t11_108 (by decide) ?_
    refine s_putfield hP t11_109 rfl rfl rfl rfl ?_
    refine s_aload_n hP t11_112 rfl ?_
    refine s_iconst (v := 0) hP t11_113 (by decide) ?_
    refine s_putfield hP t11_114 rfl rfl rfl rfl ?_
    refine s_return_ hP t11_117 rfl ?_
    exact k g u v hg hu hv
  have loop2 : ∀ (u : Nat → Int32), (∀ j, j < 12 → u j = 0) → ∀ (n i : Nat) (v : Nat → Int32), i ≤ 8 → 9 ≤ i + n → (∀ j, j < i → v j = 0) → P 30 [some (.ref 15), some (.int (nI i))] [] (am_W ha hz (am_u2 (am_u2 (am_u2 a1 0 g) 1 u) 2 v) s1 t1 a2 s2 t2 al ma ms mt ol od) 0 0 := by
    intro u hu n
    induction n with
    | zero => intro i v h3 h4; omega
    | succ n ih =>
      intro i v h3 h4 hi
      refine s_iload_n hP t11_30 rfl ?_
      refine s_bipush (v := 8) hP t11_31 (by decide) ?_
      refine s_icmp_ge hP t11_33 (fun q33 => ?_) (fun q33 => ?_)
      · have e9 : 8 ≤ i := mi_leN (by decide) (by omega) q33
        obtain rfl : i = 8 := by omega
        exact after2 u v hu hi
      · have e9 : i < 8 := mi_nleN (a := 8) (by decide) (by omega) q33
        refine s_aload_n hP t11_36 rfl ?_
        refine s_getfield hP t11_37 rfl rfl ?_
        refine s_iload_n hP t11_40 rfl ?_
        refine s_iconst (v := 0) hP t11_41 (by decide) ?_
        refine s_iastore hP t11_42 rfl (vp_in_nI e9 (by decide)) ?_
        rw [nI_clamp (by omega)]
        refine s_iinc_1 (v := 1) hP t11_43 (by decide) (by exact rfl) ?_
        refine s_goto hP t11_46 ?_
        rw [nI_1]
        exact ih (i + 1) (upd v i 0) (by omega) (by omega) (fun j hj => by
          by_cases hji : j = i
          · rw [hji]; exact pk_us
          · rw [show upd v i 0 j = v j from pk_un hji]; exact hi j (by omega))
  have after1 : ∀ (u : Nat → Int32), (∀ j, j < 12 → u j = 0) → P 28 [some (.ref 15), some (.int (nI 12))] [] (am_W ha hz (am_u2 (am_u2 a1 0 g) 1 u) s1 t1 a2 s2 t2 al ma ms mt ol od) 0 0 := by
    intro u hu
    refine s_iconst (v := 0) hP t11_28 (by decide) ?_
    refine s_istore_n_1 hP t11_29 (by exact rfl) ?_
    exact loop2 u hu 9 0 (a1 2) (by omega) (by omega) (fun j hj => by omega)
  have loop1 : ∀ (n i : Nat) (u : Nat → Int32), i ≤ 12 → 13 ≤ i + n → (∀ j, j < i → u j = 0) → P 9 [some (.ref 15), some (.int (nI i))] [] (am_W ha hz (am_u2 (am_u2 a1 0 g) 1 u) s1 t1 a2 s2 t2 al ma ms mt ol od) 0 0 := by
    intro n
    induction n with
    | zero => intro i u h3 h4; omega
    | succ n ih =>
      intro i u h3 h4 hi
      refine s_iload_n hP t11_9 rfl ?_
      refine s_bipush (v := 12) hP t11_10 (by decide) ?_
      refine s_icmp_ge hP t11_12 (fun q12 => ?_) (fun q12 => ?_)
      · have e9 : 12 ≤ i := mi_leN (by decide) (by omega) q12
        obtain rfl : i = 12 := by omega
        exact after1 u hi
      · have e9 : i < 12 := mi_nleN (a := 12) (by decide) (by omega) q12
        refine s_aload_n hP t11_15 rfl ?_
        refine s_getfield hP t11_16 rfl rfl ?_
        refine s_iload_n hP t11_19 rfl ?_
        refine s_iconst (v := 0) hP t11_20 (by decide) ?_
        refine s_iastore hP t11_21 rfl (vp_in_nI e9 (by decide)) ?_
        rw [nI_clamp (by omega)]
        refine s_iinc_1 (v := 1) hP t11_22 (by decide) (by exact rfl) ?_
        refine s_goto hP t11_25 ?_
        rw [nI_1]
        exact ih (i + 1) (upd u i 0) (by omega) (by omega) (fun j hj => by
          by_cases hji : j = i
          · rw [hji]; exact pk_us
          · rw [show upd u i 0 j = u j from pk_un hji]; exact hi j (by omega))
  refine s_iconst (v := 0) hP t11_7 (by decide) ?_
  refine s_istore_n_1 hP t11_8 (by exact rfl) ?_
  exact loop1 13 0 (a1 1) (by omega) (by omega) (fun j hj => by omega)
set_option maxHeartbeats 1000000 in
theorem sp17_2 {d : Nat} {K : am_K} {ha : Nat → Nat → Int32} {hz : Int32} {a1 : Nat → Nat → Int32} {s1 : Nat → Int32} {t1 : UInt32} {a2 : Nat → Nat → Int32} {s2 : Nat → Int32} {t2 : UInt32} {al : Int32} {ma : Nat → Nat → Int32} {ms : Nat → Int32} {mt : UInt32} {ol : Nat → Int64} {od : Nat → UInt64} {x : Int32} (k : K (some (.int (mc_val (a2 2) x))) (am_W ha hz a1 s1 t1 a2 s2 t2 al ma ms mt ol od)) : am_Run (d + 2) 17 [.ref 27, .int x] (am_W ha hz a1 s1 t1 a2 s2 t2 al ma ms mt ol od) K := by
  refine ⟨rfl, fun P hm hP => ?_⟩
  show P 0 [some (.ref 27), some (.int x), none] [] _ 0 0
  refine s_iload_n hP t17_0 rfl ?_
  refine s_bipush (v := 100) hP t17_1 (by decide) ?_
  refine s_isub hP t17_3 ?_
  refine s_istore_n_2 hP t17_4 (by exact rfl) ?_
  refine s_iload_n hP t17_5 rfl ?_
  refine s_iconst (v := 0) hP t17_6 (by decide) ?_
  refine s_bipush (v := 7) hP t17_7 (by decide) ?_
  refine s_invokestatic (bc' := 0) (bs' := 0) hP t17_9 rfl rfl rfl rfl rfl ?_
  refine sp84 ?_
  refine s_zeq hP t17_12 (fun q12 => ?_) (fun q12 => ?_)
  · refine s_iload_n hP t17_24 rfl ?_
    refine s_ireturn hP t17_25 rfl rfl ?_
    rw [mc_val, if_neg (by rw [q12]; decide)] at k
    exact k
  · refine s_aload_n hP t17_15 rfl ?_
    refine s_getfield hP t17_16 rfl rfl ?_
    refine s_iload_n hP t17_19 rfl ?_
    refine s_iaload hP t17_20 rfl (mi_iw_in (N := 7) rfl (by decide) q12) ?_
    refine s_goto hP t17_21 ?_
    refine s_ireturn hP t17_25 rfl rfl ?_
    rw [mc_val, if_pos q12] at k
    exact k
set_option maxHeartbeats 1000000 in
theorem sp21_2 {d : Nat} {K : am_K} {ha : Nat → Nat → Int32} {hz : Int32} {a1 : Nat → Nat → Int32} {s1 : Nat → Int32} {t1 : UInt32} {a2 : Nat → Nat → Int32} {s2 : Nat → Int32} {t2 : UInt32} {al : Int32} {ma : Nat → Nat → Int32} {ms : Nat → Int32} {mt : UInt32} {ol : Nat → Int64} {od : Nat → UInt64} (k : K (some (.int (am_b (mc_cut (s2 16))))) (am_W ha hz a1 s1 t1 a2 s2 t2 al ma ms mt ol od)) : am_Run (d + 1) 21 [.ref 27] (am_W ha hz a1 s1 t1 a2 s2 t2 al ma ms mt ol od) K := by
  refine ⟨rfl, fun P hm hP => ?_⟩
  show P 0 [some (.ref 27)] [] _ 0 0
  refine s_aload_n hP t21_0 rfl ?_
  refine s_getfield hP t21_1 rfl rfl ?_
  refine s_bipush (v := 108) hP t21_4 (by decide) ?_
  refine s_icmp_eq hP t21_6 (fun q6 => ?_) (fun q6 => ?_)
  · refine s_iconst (v := 1) hP t21_27 (by decide) ?_
    refine s_goto hP t21_28 ?_
    refine s_ireturn hP t21_32 rfl rfl ?_
    simp [am_b, mc_cut, q6] at k
    exact k
  · refine s_aload_n hP t21_9 rfl ?_
    refine s_getfield hP t21_10 rfl rfl ?_
    refine s_bipush (v := 100) hP t21_13 (by decide) ?_
    refine s_icmp_eq hP t21_15 (fun q15 => ?_) (fun q15 => ?_)
    · refine s_iconst (v := 1) hP t21_27 (by decide) ?_
      refine s_goto hP t21_28 ?_
      refine s_ireturn hP t21_32 rfl rfl ?_
      simp [am_b, mc_cut, q6, q15] at k
      exact k
    · refine s_aload_n hP t21_18 rfl ?_
      refine s_getfield hP t21_19 rfl rfl ?_
      refine s_bipush (v := 112) hP t21_22 (by decide) ?_
      refine s_icmp_ne hP t21_24 (fun q24 => ?_) (fun q24 => ?_)
      · refine s_iconst (v := 0) hP t21_31 (by decide) ?_
        refine s_ireturn hP t21_32 rfl rfl ?_
        simp [am_b, mc_cut, q6, q15, q24] at k
        exact k
      · refine s_iconst (v := 1) hP t21_27 (by decide) ?_
        refine s_goto hP t21_28 ?_
        refine s_ireturn hP t21_32 rfl rfl ?_
        simp [am_b, mc_cut, q6, q15, q24] at k
        exact k
set_option maxHeartbeats 1000000 in
theorem sp22_2 {d : Nat} {K : am_K} {ha : Nat → Nat → Int32} {hz : Int32} {a1 : Nat → Nat → Int32} {s1 : Nat → Int32} {t1 : UInt32} {a2 : Nat → Nat → Int32} {s2 : Nat → Int32} {t2 : UInt32} {al : Int32} {ma : Nat → Nat → Int32} {ms : Nat → Int32} {mt : UInt32} {ol : Nat → Int64} {od : Nat → UInt64} {x : Int32} (k : K (some (.int (am_b (mc_worn (ha 2) (a2 1) x)))) (am_W ha hz a1 s1 t1 a2 s2 t2 al ma ms mt ol od)) : am_Run (d + 2) 22 [.ref 27, .int x] (am_W ha hz a1 s1 t1 a2 s2 t2 al ma ms mt ol od) K := by
  refine ⟨rfl, fun P hm hP => ?_⟩
  show P 0 [some (.ref 27), some (.int x)] [] _ 0 0
  refine s_iload_n hP t22_0 rfl ?_
  refine s_iconst (v := 0) hP t22_1 (by decide) ?_
  refine s_bipush (v := 11) hP t22_2 (by decide) ?_
  refine s_invokestatic (bc' := 0) (bs' := 0) hP t22_4 rfl rfl rfl rfl rfl ?_
  refine sp84 ?_
  refine s_zeq hP t22_7 (fun q7 => ?_) (fun q7 => ?_)
  · refine s_iconst (v := 0) hP t22_35 (by decide) ?_
    refine s_ireturn hP t22_36 rfl rfl ?_
    simp [am_b, mc_worn, q7] at k
    exact k
  · refine s_aload_n hP t22_10 rfl ?_
    refine s_getfield hP t22_11 rfl rfl ?_
    refine s_iload_n hP t22_14 rfl ?_
    refine s_iaload hP t22_15 rfl (mi_iw_in (N := 11) rfl (by decide) q7) ?_
    refine s_aload_n hP t22_16 rfl ?_
    refine s_getfield hP t22_17 rfl rfl ?_
    refine s_getfield hP t22_20 rfl rfl ?_
    refine s_getfield hP t22_23 rfl rfl ?_
    refine s_iload_n hP t22_26 rfl ?_
    refine s_iaload hP t22_27 rfl (mi_iw_in (N := 11) rfl (by decide) q7) ?_
    refine s_icmp_lt hP t22_28 (fun q28 => ?_) (fun q28 => ?_)
    · refine s_iconst (v := 0) hP t22_35 (by decide) ?_
      refine s_ireturn hP t22_36 rfl rfl ?_
      simp [am_b, mc_worn, q7, q28, Int32.not_le.mpr q28] at k
      exact k
    · refine s_iconst (v := 1) hP t22_31 (by decide) ?_
      refine s_goto hP t22_32 ?_
      refine s_ireturn hP t22_36 rfl rfl ?_
      simp [am_b, mc_worn, q7, q28, Int32.not_lt.mp q28] at k
      exact k
set_option maxHeartbeats 2000000 in
theorem sp23_2 {d : Nat} {K : am_K} {ha : Nat → Nat → Int32} {hz : Int32} {a1 : Nat → Nat → Int32} {s1 : Nat → Int32} {t1 : UInt32} {a2 : Nat → Nat → Int32} {s2 : Nat → Int32} {t2 : UInt32} {al : Int32} {ma : Nat → Nat → Int32} {ms : Nat → Int32} {mt : UInt32} {ol : Nat → Int64} {od : Nat → UInt64} {A B : Nat} (hA : s2 17 = nI A) (hB : s2 18 = nI B) (hA3 : A < 3) (hB4 : B < 4) (k : K (some (.int (mc_take ha (a2 1) A B))) (am_W ha hz a1 s1 t1 a2 s2 t2 al ma ms mt ol od)) : am_Run (d + 3) 23 [.ref 27] (am_W ha hz a1 s1 t1 a2 s2 t2 al ma ms mt ol od) K := by
  refine ⟨rfl, fun P hm hP => ?_⟩
  show P 0 [some (.ref 27), none, none, none] [] _ 0 0
  have loop : ∀ (n j : Nat), j ≤ 4 → 5 ≤ j + n → mc_first (mc_p ha (a2 1) A B) j (4 - j) = mc_first (mc_p ha (a2 1) A B) B (4 - B) → P 17 [some (.ref 27), some (.int (nI (4 * A + B))), some (.int (nI j)), none] [] (am_W ha hz a1 s1 t1 a2 s2 t2 al ma ms mt ol od) 0 0 := by
    intro n
    induction n with
    | zero => intro j h3 h4; omega
    | succ n ih =>
      intro j h3 h4 he
      refine s_iload_n hP t23_17 rfl ?_
      refine s_iconst (v := 4) hP t23_18 (by decide) ?_
      refine s_icmp_ge hP t23_19 (fun q19 => ?_) (fun q19 => ?_)
      · have e19 : 4 ≤ j := mi_leN (by decide) (by omega) q19
        refine s_iconst (v := (-1)) hP t23_62 (by decide) ?_
        refine s_ireturn hP t23_63 rfl rfl ?_
        obtain rfl : j = 4 := by omega
        rw [mc_take, ← he] at k
        exact k
      · have e19 : j < 4 := mi_nleN (a := 4) (by decide) (by omega) q19
        refine s_aload_n hP t23_22 rfl ?_
        refine s_getfield hP t23_23 rfl rfl ?_
        refine s_iload_n hP t23_26 rfl ?_
        refine s_invokestatic (bc' := 0) (bs' := 0) hP t23_27 rfl rfl rfl rfl rfl ?_
        refine sp88 ?_
        rw [hA, mi_slotN]
        refine s_istore_n_3 hP t23_30 (by exact rfl) ?_
        refine s_aload_n hP t23_31 rfl ?_
        refine s_getfield hP t23_32 rfl rfl ?_
        refine s_getfield hP t23_35 rfl rfl ?_
        refine s_iload_n hP t23_38 rfl ?_
        refine s_iload_n hP t23_39 rfl ?_
        refine s_invokevirtual (bc' := 0) (bs' := 0) hP t23_40 rfl rfl rfl rfl rfl ?_
        refine sp60 rfl rfl rfl ?_
        refine s_zeq hP t23_43 (fun q43 => ?_) (fun q43 => ?_)
        · have e43 : mc_p ha (a2 1) A B j = false := by
            rw [mi_iw11 (n := 4 * A + B) (by omega), mi_iw11 (n := 4 * A + j) (by omega), nI_clamp (n := 4 * A + B) (by omega), nI_clamp (n := 4 * A + j) (by omega), Bool.true_and, Bool.true_and] at q43
            rw [mc_p, ← Bool.and_assoc, q43]; rfl
          refine s_iinc_2 (v := 1) hP t23_56 (by decide) (by exact rfl) ?_
          refine s_goto hP t23_59 ?_
          rw [nI_1]
          refine hm _ _ _ _ _ _ _ (by repeat (first | exact am_le_nil | apply am_le_cons | apply am_le_none)) (ih (j + 1) (by omega) (by omega) (by rw [← he, show 4 - j = (4 - (j + 1)) + 1 by omega, mc_first, if_neg (by rw [e43]; decide)]))
        · rw [mi_iw11 (n := 4 * A + B) (by omega), mi_iw11 (n := 4 * A + j) (by omega), nI_clamp (n := 4 * A + B) (by omega), nI_clamp (n := 4 * A + j) (by omega), Bool.true_and, Bool.true_and] at q43
          refine s_aload_n hP t23_46 rfl ?_
          refine s_iload_n hP t23_47 rfl ?_
          refine s_invokevirtual (bc' := 0) (bs' := 0) hP t23_48 rfl rfl rfl rfl rfl ?_
          refine sp22_2 ?_
          refine s_zne hP t23_51 (fun q51 => ?_) (fun q51 => ?_)
          · have e43 : mc_p ha (a2 1) A B j = false := by
              rw [mc_worn, mi_iw11 (n := 4 * A + j) (by omega), nI_clamp (n := 4 * A + j) (by omega), Bool.true_and] at q51
              rw [mc_p, ← Bool.and_assoc, q43, q51]; rfl
            refine s_iinc_2 (v := 1) hP t23_56 (by decide) (by exact rfl) ?_
            refine s_goto hP t23_59 ?_
            rw [nI_1]
            refine hm _ _ _ _ _ _ _ (by repeat (first | exact am_le_nil | apply am_le_cons | apply am_le_none)) (ih (j + 1) (by omega) (by omega) (by rw [← he, show 4 - j = (4 - (j + 1)) + 1 by omega, mc_first, if_neg (by rw [e43]; decide)]))
          · have e43 : mc_p ha (a2 1) A B j = true := by
              rw [mc_worn, mi_iw11 (n := 4 * A + j) (by omega), nI_clamp (n := 4 * A + j) (by omega), Bool.true_and] at q51
              rw [mc_p, ← Bool.and_assoc, q43, q51]; rfl
            refine s_iload_n hP t23_54 rfl ?_
            refine s_ireturn hP t23_55 rfl rfl ?_
            rw [mc_take, ← he, show 4 - j = (4 - (j + 1)) + 1 by omega, mc_first, if_pos e43] at k
            exact k
  refine s_aload_n hP t23_0 rfl ?_
  refine s_getfield hP t23_1 rfl rfl ?_
  refine s_aload_n hP t23_4 rfl ?_
  refine s_getfield hP t23_5 rfl rfl ?_
  refine s_invokestatic (bc' := 0) (bs' := 0) hP t23_8 rfl rfl rfl rfl rfl ?_
  refine sp88 ?_
  rw [hA, hB, mi_slotN]
  refine s_istore_n_1 hP t23_11 (by exact rfl) ?_
  refine s_aload_n hP t23_12 rfl ?_
  refine s_getfield hP t23_13 rfl rfl ?_
  rw [hB]
  refine s_istore_n_2 hP t23_16 (by exact rfl) ?_
  exact loop 5 B (by omega) (by omega) rfl
set_option maxHeartbeats 4000000 in
theorem sp18_2 {d : Nat} {K : am_K} {ha : Nat → Nat → Int32} {hz : Int32} {a1 : Nat → Nat → Int32} {s1 : Nat → Int32} {t1 : UInt32} {a2 : Nat → Nat → Int32} {s2 : Nat → Int32} {t2 : UInt32} {al : Int32} {ma : Nat → Nat → Int32} {ms : Nat → Int32} {mt : UInt32} {ol : Nat → Int64} {od : Nat → UInt64} (hk : mi_kind (s2 16) = true) (k : K (some (.int (am_b (mc_told ha (s2 16) (s2 17) (s2 18) (s2 19))))) (am_W ha hz a1 s1 t1 a2 s2 t2 al ma ms mt ol od)) : am_Run (d + 3) 18 [.ref 27] (am_W ha hz a1 s1 t1 a2 s2 t2 al ma ms mt ol od) K := by
  refine ⟨rfl, fun P hm hP => ?_⟩
  show P 0 [some (.ref 27)] [] _ 0 0
  refine s_aload_n hP t18_0 rfl ?_
  refine s_getfield hP t18_1 rfl rfl ?_
  rcases mi_kind_cases hk with hk9 | hk9 | hk9 | hk9 | hk9 | hk9 | hk9 | hk9 | hk9 | hk9 | hk9 | hk9 | hk9 | hk9 | hk9
  · rw [hk9]
    refine s_swin (off := 245) (tgt := 249) hP t18_4 (by decide) (by decide) rfl (by decide) ?_
    refine s_iconst (v := 1) hP t18_249 (by decide) ?_
    refine s_ireturn hP t18_250 rfl rfl ?_
    simp only [hk9, mc_told] at k
    simp [am_b] at k
    exact k
  · rw [hk9]
    refine s_swin (off := 245) (tgt := 249) hP t18_4 (by decide) (by decide) rfl (by decide) ?_
    refine s_iconst (v := 1) hP t18_249 (by decide) ?_
    refine s_ireturn hP t18_250 rfl rfl ?_
    simp only [hk9, mc_told] at k
    simp [am_b] at k
    exact k
  · rw [hk9]
    refine s_swin (off := 100) (tgt := 104) hP t18_4 (by decide) (by decide) rfl (by decide) ?_
    refine s_aload_n hP t18_104 rfl ?_
    refine s_getfield hP t18_105 rfl rfl ?_
    refine s_if_lt hP t18_108 (fun q108 => ?_) (fun q108 => ?_)
    · refine s_iconst (v := 0) hP t18_123 (by decide) ?_
      refine s_ireturn hP t18_124 rfl rfl ?_
      simp only [hk9, mc_told] at k
      simp [am_b, q108, Int32.not_le.mpr q108] at k
      exact k
    · refine s_aload_n hP t18_111 rfl ?_
      refine s_getfield hP t18_112 rfl rfl ?_
      refine s_iconst (v := 1) hP t18_115 (by decide) ?_
      refine s_icmp_lt hP t18_116 (fun q116 => ?_) (fun q116 => ?_)
      · refine s_iconst (v := 0) hP t18_123 (by decide) ?_
        refine s_ireturn hP t18_124 rfl rfl ?_
        simp only [hk9, mc_told] at k
        simp [am_b, q108, Int32.not_lt.mp q108, q116, Int32.not_le.mpr q116] at k
        exact k
      · refine s_iconst (v := 1) hP t18_119 (by decide) ?_
        refine s_goto hP t18_120 ?_
        refine s_ireturn hP t18_124 rfl rfl ?_
        simp only [hk9, mc_told] at k
        simp [am_b, q108, Int32.not_lt.mp q108, q116, Int32.not_lt.mp q116] at k
        exact k
  · rw [hk9]
    refine s_swin (off := 121) (tgt := 125) hP t18_4 (by decide) (by decide) rfl (by decide) ?_
    refine s_aload_n hP t18_125 rfl ?_
    refine s_getfield hP t18_126 rfl rfl ?_
    refine s_if_lt hP t18_129 (fun q129 => ?_) (fun q129 => ?_)
    · refine s_iconst (v := 0) hP t18_150 (by decide) ?_
      refine s_ireturn hP t18_151 rfl rfl ?_
      simp only [hk9, mc_told] at k
      simp [am_b, q129, Int32.not_le.mpr q129] at k
      exact k
    · refine s_aload_n hP t18_132 rfl ?_
      refine s_getfield hP t18_133 rfl rfl ?_
      refine s_if_lt hP t18_136 (fun q136 => ?_) (fun q136 => ?_)
      · refine s_iconst (v := 0) hP t18_150 (by decide) ?_
        refine s_ireturn hP t18_151 rfl rfl ?_
        simp only [hk9, mc_told] at k
        simp [am_b, q129, Int32.not_lt.mp q129, q136, Int32.not_le.mpr q136] at k
        exact k
      · refine s_aload_n hP t18_139 rfl ?_
        refine s_getfield hP t18_140 rfl rfl ?_
        refine s_if_lt hP t18_143 (fun q143 => ?_) (fun q143 => ?_)
        · refine s_iconst (v := 0) hP t18_150 (by decide) ?_
          refine s_ireturn hP t18_151 rfl rfl ?_
          simp only [hk9, mc_told] at k
          simp [am_b, q129, Int32.not_lt.mp q129, q136, Int32.not_lt.mp q136, q143, Int32.not_le.mpr q143] at k
          exact k
        · refine s_iconst (v := 1) hP t18_146 (by decide) ?_
          refine s_goto hP t18_147 ?_
          refine s_ireturn hP t18_151 rfl rfl ?_
          simp only [hk9, mc_told] at k
          simp [am_b, q129, Int32.not_lt.mp q129, q136, Int32.not_lt.mp q136, q143, Int32.not_lt.mp q143] at k
          exact k
  · rw [hk9]
    refine s_swin (off := 148) (tgt := 152) hP t18_4 (by decide) (by decide) rfl (by decide) ?_
    refine s_aload_n hP t18_152 rfl ?_
    refine s_getfield hP t18_153 rfl rfl ?_
    refine s_aload_n hP t18_156 rfl ?_
    refine s_getfield hP t18_157 rfl rfl ?_
    refine s_invokestatic (bc' := 0) (bs' := 0) hP t18_160 rfl rfl rfl rfl rfl ?_
    refine sp87 ?_
    refine s_zeq hP t18_163 (fun q163 => ?_) (fun q163 => ?_)
    · refine s_iconst (v := 0) hP t18_194 (by decide) ?_
      refine s_ireturn hP t18_195 rfl rfl ?_
      rw [hk9, show mc_told ha 116 (s2 17) (s2 18) (s2 19) = (mi_slot (s2 17) (s2 18) && (mi_iw (4 * s2 17 + s2 18) 0 11 && decide (¬ ha 0 (4 * s2 17 + s2 18).toNatClampNeg = 0))) from rfl, q163, Bool.false_and] at k
      exact k
    · refine s_aload_n hP t18_166 rfl ?_
      refine s_getfield hP t18_167 rfl rfl ?_
      refine s_getfield hP t18_170 rfl rfl ?_
      refine s_aload_n hP t18_173 rfl ?_
      refine s_getfield hP t18_174 rfl rfl ?_
      refine s_aload_n hP t18_177 rfl ?_
      refine s_getfield hP t18_178 rfl rfl ?_
      refine s_invokestatic (bc' := 0) (bs' := 0) hP t18_181 rfl rfl rfl rfl rfl ?_
      refine sp88 ?_
      refine s_invokevirtual (bc' := 0) (bs' := 0) hP t18_184 rfl rfl rfl rfl rfl ?_
      refine sp58 rfl rfl rfl ?_
      refine s_zeq hP t18_187 (fun q187 => ?_) (fun q187 => ?_)
      · refine s_iconst (v := 0) hP t18_194 (by decide) ?_
        refine s_ireturn hP t18_195 rfl rfl ?_
        rw [hk9, show mc_told ha 116 (s2 17) (s2 18) (s2 19) = (mi_slot (s2 17) (s2 18) && (mi_iw (4 * s2 17 + s2 18) 0 11 && decide (¬ ha 0 (4 * s2 17 + s2 18).toNatClampNeg = 0))) from rfl, q163, Bool.true_and, q187] at k
        exact k
      · refine s_iconst (v := 1) hP t18_190 (by decide) ?_
        refine s_goto hP t18_191 ?_
        refine s_ireturn hP t18_195 rfl rfl ?_
        rw [hk9, show mc_told ha 116 (s2 17) (s2 18) (s2 19) = (mi_slot (s2 17) (s2 18) && (mi_iw (4 * s2 17 + s2 18) 0 11 && decide (¬ ha 0 (4 * s2 17 + s2 18).toNatClampNeg = 0))) from rfl, q163, Bool.true_and, q187] at k
        exact k
  · rw [hk9]
    refine s_swin (off := 192) (tgt := 196) hP t18_4 (by decide) (by decide) rfl (by decide) ?_
    refine s_aload_n hP t18_196 rfl ?_
    refine s_getfield hP t18_197 rfl rfl ?_
    refine s_iconst (v := 0) hP t18_200 (by decide) ?_
    refine s_iconst (v := 1) hP t18_201 (by decide) ?_
    refine s_invokestatic (bc' := 0) (bs' := 0) hP t18_202 rfl rfl rfl rfl rfl ?_
    refine sp84 ?_
    refine s_ireturn hP t18_205 rfl (am_nar_b _) ?_
    rw [hk9] at k
    exact k
  · rw [hk9]
    refine s_swin (off := 202) (tgt := 206) hP t18_4 (by decide) (by decide) rfl (by decide) ?_
    refine s_aload_n hP t18_206 rfl ?_
    refine s_getfield hP t18_207 rfl rfl ?_
    refine s_iconst (v := 1) hP t18_210 (by decide) ?_
    refine s_bipush (v := 50) hP t18_211 (by decide) ?_
    refine s_invokestatic (bc' := 0) (bs' := 0) hP t18_213 rfl rfl rfl rfl rfl ?_
    refine sp84 ?_
    refine s_ireturn hP t18_216 rfl (am_nar_b _) ?_
    rw [hk9] at k
    exact k
  · rw [hk9]
    refine s_swin (off := 192) (tgt := 196) hP t18_4 (by decide) (by decide) rfl (by decide) ?_
    refine s_aload_n hP t18_196 rfl ?_
    refine s_getfield hP t18_197 rfl rfl ?_
    refine s_iconst (v := 0) hP t18_200 (by decide) ?_
    refine s_iconst (v := 1) hP t18_201 (by decide) ?_
    refine s_invokestatic (bc' := 0) (bs' := 0) hP t18_202 rfl rfl rfl rfl rfl ?_
    refine sp84 ?_
    refine s_ireturn hP t18_205 rfl (am_nar_b _) ?_
    rw [hk9] at k
    exact k
  · rw [hk9]
    refine s_swin (off := 213) (tgt := 217) hP t18_4 (by decide) (by decide) rfl (by decide) ?_
    refine s_aload_n hP t18_217 rfl ?_
    refine s_getfield hP t18_218 rfl rfl ?_
    refine s_iconst (v := 0) hP t18_221 (by decide) ?_
    refine s_iconst (v := 3) hP t18_222 (by decide) ?_
    refine s_invokestatic (bc' := 0) (bs' := 0) hP t18_223 rfl rfl rfl rfl rfl ?_
    refine sp84 ?_
    refine s_ireturn hP t18_226 rfl (am_nar_b _) ?_
    rw [hk9] at k
    exact k
  · rw [hk9]
    refine s_swin (off := 223) (tgt := 227) hP t18_4 (by decide) (by decide) rfl (by decide) ?_
    refine s_aload_n hP t18_227 rfl ?_
    refine s_getfield hP t18_228 rfl rfl ?_
    refine s_iconst (v := 0) hP t18_231 (by decide) ?_
    refine s_bipush (v := 7) hP t18_232 (by decide) ?_
    refine s_invokestatic (bc' := 0) (bs' := 0) hP t18_234 rfl rfl rfl rfl rfl ?_
    refine sp84 ?_
    refine s_ireturn hP t18_237 rfl (am_nar_b _) ?_
    rw [hk9] at k
    exact k
  · rw [hk9]
    refine s_swin (off := 223) (tgt := 227) hP t18_4 (by decide) (by decide) rfl (by decide) ?_
    refine s_aload_n hP t18_227 rfl ?_
    refine s_getfield hP t18_228 rfl rfl ?_
    refine s_iconst (v := 0) hP t18_231 (by decide) ?_
    refine s_bipush (v := 7) hP t18_232 (by decide) ?_
    refine s_invokestatic (bc' := 0) (bs' := 0) hP t18_234 rfl rfl rfl rfl rfl ?_
    refine sp84 ?_
    refine s_ireturn hP t18_237 rfl (am_nar_b _) ?_
    rw [hk9] at k
    exact k
  · rw [hk9]
    refine s_swin (off := 234) (tgt := 238) hP t18_4 (by decide) (by decide) rfl (by decide) ?_
    refine s_aload_n hP t18_238 rfl ?_
    refine s_getfield hP t18_239 rfl rfl ?_
    refine s_iconst (v := 0) hP t18_242 (by decide) ?_
    refine s_bipush (v := 9) hP t18_243 (by decide) ?_
    refine s_invokestatic (bc' := 0) (bs' := 0) hP t18_245 rfl rfl rfl rfl rfl ?_
    refine sp84 ?_
    refine s_ireturn hP t18_248 rfl (am_nar_b _) ?_
    rw [hk9] at k
    exact k
  · rw [hk9]
    refine s_swin (off := 245) (tgt := 249) hP t18_4 (by decide) (by decide) rfl (by decide) ?_
    refine s_iconst (v := 1) hP t18_249 (by decide) ?_
    refine s_ireturn hP t18_250 rfl rfl ?_
    simp only [hk9, mc_told] at k
    simp [am_b] at k
    exact k
  · rw [hk9]
    refine s_swin (off := 245) (tgt := 249) hP t18_4 (by decide) (by decide) rfl (by decide) ?_
    refine s_iconst (v := 1) hP t18_249 (by decide) ?_
    refine s_ireturn hP t18_250 rfl rfl ?_
    simp only [hk9, mc_told] at k
    simp [am_b] at k
    exact k
  · rw [hk9]
    refine s_swin (off := 245) (tgt := 249) hP t18_4 (by decide) (by decide) rfl (by decide) ?_
    refine s_iconst (v := 1) hP t18_249 (by decide) ?_
    refine s_ireturn hP t18_250 rfl rfl ?_
    simp only [hk9, mc_told] at k
    simp [am_b] at k
    exact k
set_option maxHeartbeats 1000000 in
theorem sp36_2 {d : Nat} {K : am_K} {ha : Nat → Nat → Int32} {hz : Int32} {a1 : Nat → Nat → Int32} {s1 : Nat → Int32} {t1 : UInt32} {a2 : Nat → Nat → Int32} {s2 : Nat → Int32} {t2 : UInt32} {al : Int32} {ma : Nat → Nat → Int32} {ms : Nat → Int32} {mt : UInt32} {ol : Nat → Int64} {od : Nat → UInt64} {x y : Int32} (hi : mi_iw x 0 7 = true) (k : K none (am_W ha hz a1 s1 t1 (am_u2 a2 2 (upd (a2 2) x.toNatClampNeg (mc_clip y))) s2 t2 al ma ms mt ol od)) : am_Run (d + 2) 36 [.ref 27, .int x, .int y] (am_W ha hz a1 s1 t1 a2 s2 t2 al ma ms mt ol od) K := by
  refine ⟨rfl, fun P hm hP => ?_⟩
  show P 0 [some (.ref 27), some (.int x), some (.int y)] [] _ 0 0
  refine s_iload_n hP t36_0 rfl ?_
  refine s_iconst (v := 0) hP t36_1 (by decide) ?_
  refine s_bipush (v := 7) hP t36_2 (by decide) ?_
  refine s_invokestatic (bc' := 0) (bs' := 0) hP t36_4 rfl rfl rfl rfl rfl ?_
  refine sp84 ?_
  rw [hi]
  refine s_zeq hP t36_7 (fun q7 => ?_) (fun q7 => ?_)
  · cases q7
  · refine s_aload_n hP t36_10 rfl ?_
    refine s_getfield hP t36_11 rfl rfl ?_
    refine s_iload_n hP t36_14 rfl ?_
    refine s_bipush (v := (-50)) hP t36_15 (by decide) ?_
    refine s_bipush (v := 50) hP t36_17 (by decide) ?_
    refine s_iload_n hP t36_19 rfl ?_
    refine s_invokestatic (bc' := 0) (bs' := 0) hP t36_20 rfl rfl rfl rfl rfl ?_
    refine sp160 ?_
    refine s_invokestatic (bc' := 0) (bs' := 0) hP t36_23 rfl rfl rfl rfl rfl ?_
    refine sp159 ?_
    refine s_iastore hP t36_26 rfl (mi_iw_in (N := 7) rfl (by decide) hi) ?_
    refine s_return_ hP t36_27 rfl ?_
    exact k
set_option maxHeartbeats 1000000 in
theorem sp30_2 {d : Nat} {K : am_K} {ha : Nat → Nat → Int32} {hz : Int32} {a1 : Nat → Nat → Int32} {s1 : Nat → Int32} {t1 : UInt32} {a2 : Nat → Nat → Int32} {s2 : Nat → Int32} {t2 : UInt32} {al : Int32} {ma : Nat → Nat → Int32} {ms : Nat → Int32} {mt : UInt32} {ol : Nat → Int64} {od : Nat → UInt64} (k0 : mi_iw (s2 10) 0 11 = false → K none (am_W ha hz a1 s1 t1 a2 s2 t2 al ma ms mt ol od)) (k1 : mi_iw (s2 10) 0 11 = true → K none (am_W ha hz a1 s1 t1 a2 (am_u1 (am_u1 s2 21 (ha 0 (s2 10).toNatClampNeg)) 22 (ha 1 (s2 10).toNatClampNeg)) t2 al ma ms mt ol od)) : am_Run (d + 2) 30 [.ref 27] (am_W ha hz a1 s1 t1 a2 s2 t2 al ma ms mt ol od) K := by
  refine ⟨rfl, fun P hm hP => ?_⟩
  show P 0 [some (.ref 27)] [] _ 0 0
  refine s_aload_n hP t30_0 rfl ?_
  refine s_getfield hP t30_1 rfl rfl ?_
  refine s_iconst (v := 0) hP t30_4 (by decide) ?_
  refine s_bipush (v := 11) hP t30_5 (by decide) ?_
  refine s_invokestatic (bc' := 0) (bs' := 0) hP t30_7 rfl rfl rfl rfl rfl ?_
  refine sp84 ?_
  refine s_zeq hP t30_10 (fun q10 => ?_) (fun q10 => ?_)
  · refine s_return_ hP t30_50 rfl ?_
    exact k0 q10
  · refine s_aload_n hP t30_13 rfl ?_
    refine s_getfield hP t30_14 rfl rfl ?_
    refine s_aload_n hP t30_17 rfl ?_
    refine s_getfield hP t30_18 rfl rfl ?_
    refine s_getfield hP t30_21 rfl rfl ?_
    refine s_getfield hP t30_24 rfl rfl ?_
    refine s_aload_n hP t30_27 rfl ?_
    refine s_getfield hP t30_28 rfl rfl ?_
    refine s_caload hP t30_31 rfl (mi_iw_in (N := 11) rfl (by decide) q10) ?_
    refine s_aload_n hP t30_32 rfl ?_
    refine s_getfield hP t30_33 rfl rfl ?_
    refine s_getfield hP t30_36 rfl rfl ?_
    refine s_getfield hP t30_39 rfl rfl ?_
    refine s_aload_n hP t30_42 rfl ?_
    refine s_getfield hP t30_43 rfl rfl ?_
    refine s_iaload hP t30_46 rfl (mi_iw_in (N := 11) rfl (by decide) q10) ?_
    refine s_invokevirtual (bc' := 0) (bs' := 0) hP t30_47 rfl rfl rfl rfl rfl ?_
    refine sp62_2 ?_
    refine s_return_ hP t30_50 rfl ?_
    exact k1 q10
set_option maxHeartbeats 4000000 in
theorem sp11_2 {d : Nat} {K : am_K} {ha : Nat → Nat → Int32} {hz : Int32} {a1 : Nat → Nat → Int32} {s1 : Nat → Int32} {t1 : UInt32} {a2 : Nat → Nat → Int32} {s2 : Nat → Int32} {t2 : UInt32} {al : Int32} {ma : Nat → Nat → Int32} {ms : Nat → Int32} {mt : UInt32} {ol : Nat → Int64} {od : Nat → UInt64} (k : ∀ g u v : Nat → Int32, (∀ j, j < 72 → g j = 65535) → (∀ j, j < 12 → u j = 0) → (∀ j, j < 8 → v j = 0) → K none (am_W ha hz a1 s1 t1 (mc_a0 a2 g u v) (mc_s0 s2) FP.fconst0 al ma ms mt ol od)) : am_Run (d + 2) 11 [.ref 27] (am_W ha hz a1 s1 t1 a2 s2 t2 al ma ms mt ol od) K := by
  refine ⟨rfl, fun P hm hP => ?_⟩
  show P 0 [some (.ref 27), none] [] _ 0 0
  refine s_aload_n hP t11_0 rfl ?_
  refine s_getfield hP t11_1 rfl rfl ?_
  refine s_invokevirtual (bc' := 0) (bs' := 0) hP t11_4 rfl rfl rfl rfl rfl ?_
  refine sp1 rfl rfl rfl (by decide) (fun g hg => ?_)
  have after2 : ∀ (u v : Nat → Int32), (∀ j, j < 12 → u j = 0) → (∀ j, j < 8 → v j = 0) → P 49 [some (.ref 27), some (.int (nI 8))] [] (am_W ha hz a1 s1 t1 (am_u2 (am_u2 (am_u2 a2 0 g) 1 u) 2 v) s2 t2 al ma ms mt ol od) 0 0 := by
    intro u v hu hv
    refine s_aload_n hP t11_49 rfl ?_
    refine s_getfield hP t11_50 rfl rfl ?_
    refine s_iconst (v := 0) hP t11_53 (by decide) ?_
    refine s_iconst (v := 0) hP t11_54 (by decide) ?_
    refine s_iastore hP t11_55 rfl (vp_in_nI (n := 0) (by decide) (by decide)) ?_
    refine s_aload_n hP t11_56 rfl ?_
    refine s_getfield hP t11_57 rfl rfl ?_
    refine s_iconst (v := 1) hP t11_60 (by decide) ?_
    refine s_iconst (v := 0) hP t11_61 (by decide) ?_
    refine s_iastore hP t11_62 rfl (vp_in_nI (n := 1) (by decide) (by decide)) ?_
    refine s_aload_n hP t11_63 rfl ?_
    refine s_getfield hP t11_64 rfl rfl ?_
    refine s_iconst (v := 2) hP t11_67 (by decide) ?_
    refine s_bipush (v := 9) hP t11_68 (by decide) ?_
    refine s_iastore hP t11_70 rfl (vp_in_nI (n := 2) (by decide) (by decide)) ?_
    refine s_aload_n hP t11_71 rfl ?_
    refine s_iconst (v := 0) hP t11_72 (by decide) ?_
    refine s_putfield hP t11_73 rfl rfl rfl rfl ?_
    refine s_aload_n hP t11_76 rfl ?_
    refine s_iconst (v := 0) hP t11_77 (by decide) ?_
    refine s_putfield hP t11_78 rfl rfl rfl rfl ?_
    refine s_aload_n hP t11_81 rfl ?_
    refine s_iconst (v := (-1)) hP t11_82 (by decide) ?_
    refine s_putfield hP t11_83 rfl rfl rfl rfl ?_
    refine s_aload_n hP t11_86 rfl ?_
    refine s_fconst0 hP t11_87 ?_
    refine s_putfield hP t11_88 rfl rfl rfl rfl ?_
    refine s_aload_n hP t11_91 rfl ?_
    refine s_bipush (v := 10) hP t11_92 (by decide) ?_
    refine s_putfield hP t11_94 rfl rfl rfl rfl ?_
    refine s_aload_n hP t11_97 rfl ?_
    refine s_iconst (v := 0) hP t11_98 (by decide) ?_
    refine s_putfield hP t11_99 rfl rfl rfl rfl ?_
    refine s_aload_n hP t11_102 rfl ?_
    refine s_iconst (v := 0) hP t11_103 (by decide) ?_
    refine s_putfield hP t11_104 rfl rfl rfl rfl ?_
    refine s_aload_n hP t11_107 rfl ?_
    refine s_iconst (v := 0) hP t11_108 (by decide) ?_
    refine s_putfield hP t11_109 rfl rfl rfl rfl ?_
    refine s_aload_n hP t11_112 rfl ?_
    refine s_iconst (v := 0) hP t11_113 (by decide) ?_
    refine s_putfield hP t11_114 rfl rfl rfl rfl ?_
    refine s_return_ hP t11_117 rfl ?_
    exact k g u v hg hu hv
  have loop2 : ∀ (u : Nat → Int32), (∀ j, j < 12 → u j = 0) → ∀ (n i : Nat) (v : Nat → Int32), i ≤ 8 → 9 ≤ i + n → (∀ j, j < i → v j = 0) → P 30 [some (.ref 27), some (.int (nI i))] [] (am_W ha hz a1 s1 t1 (am_u2 (am_u2 (am_u2 a2 0 g) 1 u) 2 v) s2 t2 al ma ms mt ol od) 0 0 := by
    intro u hu n
    induction n with
    | zero => intro i v h3 h4; omega
    | succ n ih =>
      intro i v h3 h4 hi
      refine s_iload_n hP t11_30 rfl ?_
      refine s_bipush (v := 8) hP t11_31 (by decide) ?_
      refine s_icmp_ge hP t11_33 (fun q33 => ?_) (fun q33 => ?_)
      · have e9 : 8 ≤ i := mi_leN (by decide) (by omega) q33
        obtain rfl : i = 8 := by omega
        exact after2 u v hu hi
      · have e9 : i < 8 := mi_nleN (a := 8) (by decide) (by omega) q33
        refine s_aload_n hP t11_36 rfl ?_
        refine s_getfield hP t11_37 rfl rfl ?_
        refine s_iload_n hP t11_40 rfl ?_
        refine s_iconst (v := 0) hP t11_41 (by decide) ?_
        refine s_iastore hP t11_42 rfl (vp_in_nI e9 (by decide)) ?_
        rw [nI_clamp (by omega)]
        refine s_iinc_1 (v := 1) hP t11_43 (by decide) (by exact rfl) ?_
        refine s_goto hP t11_46 ?_
        rw [nI_1]
        exact ih (i + 1) (upd v i 0) (by omega) (by omega) (fun j hj => by
          by_cases hji : j = i
          · rw [hji]; exact pk_us
          · rw [show upd v i 0 j = v j from pk_un hji]; exact hi j (by omega))
  have after1 : ∀ (u : Nat → Int32), (∀ j, j < 12 → u j = 0) → P 28 [some (.ref 27), some (.int (nI 12))] [] (am_W ha hz a1 s1 t1 (am_u2 (am_u2 a2 0 g) 1 u) s2 t2 al ma ms mt ol od) 0 0 := by
    intro u hu
    refine s_iconst (v := 0) hP t11_28 (by decide) ?_
    refine s_istore_n_1 hP t11_29 (by exact rfl) ?_
    exact loop2 u hu 9 0 (a2 2) (by omega) (by omega) (fun j hj => by omega)
  have loop1 : ∀ (n i : Nat) (u : Nat → Int32), i ≤ 12 → 13 ≤ i + n → (∀ j, j < i → u j = 0) → P 9 [some (.ref 27), some (.int (nI i))] [] (am_W ha hz a1 s1 t1 (am_u2 (am_u2 a2 0 g) 1 u) s2 t2 al ma ms mt ol od) 0 0 := by
    intro n
    induction n with
    | zero => intro i u h3 h4; omega
    | succ n ih =>
      intro i u h3 h4 hi
      refine s_iload_n hP t11_9 rfl ?_
      refine s_bipush (v := 12) hP t11_10 (by decide) ?_
      refine s_icmp_ge hP t11_12 (fun q12 => ?_) (fun q12 => ?_)
      · have e9 : 12 ≤ i := mi_leN (by decide) (by omega) q12
        obtain rfl : i = 12 := by omega
        exact after1 u hi
      · have e9 : i < 12 := mi_nleN (a := 12) (by decide) (by omega) q12
        refine s_aload_n hP t11_15 rfl ?_
        refine s_getfield hP t11_16 rfl rfl ?_
        refine s_iload_n hP t11_19 rfl ?_
        refine s_iconst (v := 0) hP t11_20 (by decide) ?_
        refine s_iastore hP t11_21 rfl (vp_in_nI e9 (by decide)) ?_
        rw [nI_clamp (by omega)]
        refine s_iinc_1 (v := 1) hP t11_22 (by decide) (by exact rfl) ?_
        refine s_goto hP t11_25 ?_
        rw [nI_1]
        exact ih (i + 1) (upd u i 0) (by omega) (by omega) (fun j hj => by
          by_cases hji : j = i
          · rw [hji]; exact pk_us
          · rw [show upd u i 0 j = u j from pk_un hji]; exact hi j (by omega))
  refine s_iconst (v := 0) hP t11_7 (by decide) ?_
  refine s_istore_n_1 hP t11_8 (by exact rfl) ?_
  exact loop1 13 0 (a2 1) (by omega) (by omega) (fun j hj => by omega)
