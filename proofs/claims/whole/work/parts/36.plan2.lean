/-! A SINGLE MOVE, AND THE WHOLE PLAN. (rows by gen/sp13.py) -/
/-- what a move counts from: the offset, or the place -/
def mb_b (ha : Nat → Nat → Int32) (a : Nat → Nat → Int32) (s : Nat → Int32) (i : Nat) : Int32 := if s 14 = 0 then ha 4 (3 * (s 13).toNatClampNeg + i) else a 3 i
theorem mp_3i {O : Nat} : nI O * 3 = nI (3 * O) := by rw [show (3 : Int32) = nI 3 from rfl, pk_mul, Nat.mul_comm]
set_option maxHeartbeats 1000000 in
theorem sp25_1 {d : Nat} {K : am_K} {ha : Nat → Nat → Int32} {hz : Int32} {a1 : Nat → Nat → Int32} {s1 : Nat → Int32} {t1 : UInt32} {a2 : Nat → Nat → Int32} {s2 : Nat → Int32} {t2 : UInt32} {al : Int32} {ma : Nat → Nat → Int32} {ms : Nat → Int32} {mt : UInt32} {ol : Nat → Int64} {od : Nat → UInt64} {f g e : Nat → Int32} (hof : s1 14 = 0 → ∃ O, s1 13 = nI O ∧ O < 4) (k : ∀ f' g' : Nat → Int32, ml_hold f' g' [mk_one (a1 3 0) (a1 3 1) (a1 3 2) ((mb_b ha a1 s1 0) + s1 17) ((mb_b ha a1 s1 1) + s1 18) ((mb_b ha a1 s1 2) + s1 19)] → K none (am_W ha hz (mq_a a1 f' g' (mp_3 e 0 ((mb_b ha a1 s1 0) + s1 17) ((mb_b ha a1 s1 1) + s1 18) ((mb_b ha a1 s1 2) + s1 19))) (mq_s s1 1) t1 a2 s2 t2 al ma ms mt ol od)) : am_Run (d + 3) 25 [.ref 15] (am_W ha hz (mq_a a1 f g e) (mq_s s1 0) t1 a2 s2 t2 al ma ms mt ol od) K := by
  refine ⟨rfl, fun P hm hP => ?_⟩
  show P 0 [some (.ref 15), none, none, none, none, none] [] _ 0 0
  by_cases h14 : s1 14 = 0
  · obtain ⟨O, hO, hO4⟩ := hof h14
    have eb : ∀ i, mb_b ha a1 s1 i = ha 4 (3 * O + i) := fun i => by rw [mb_b, if_pos h14, hO, nI_clamp (by omega)]
    rw [eb, eb, eb] at k
    refine s_aload_n hP t25_0 rfl ?_
    refine s_getfield hP t25_1 rfl rfl ?_
    refine s_if_eq hP t25_4 (fun q4 => ?_) (fun q4 => ?_)
    · refine s_aload_n hP t25_14 rfl ?_
      refine s_getfield hP t25_15 rfl rfl ?_
      refine s_getfield hP t25_18 rfl rfl ?_
      refine s_astore_n_1 hP t25_21 (by exact rfl) ?_
      refine s_aload_n hP t25_22 rfl ?_
      refine s_getfield hP t25_23 rfl rfl ?_
      refine s_if_eq hP t25_26 (fun q26 => ?_) (fun q26 => ?_)
      · refine s_aload_n hP t25_33 rfl ?_
        refine s_getfield hP t25_34 rfl rfl ?_
        refine s_iconst (v := 3) hP t25_37 (by decide) ?_
        refine s_imul hP t25_38 ?_
        rw [show (mq_s s1 0) 13 = nI O from hO, mp_3i]
        refine s_istore_n_2 hP t25_39 (by exact rfl) ?_
        refine s_iload_n hP t25_40 rfl ?_
        refine s_iconst (v := 0) hP t25_41 (by decide) ?_
        refine s_aload_n hP t25_42 rfl ?_
        refine s_arraylength hP t25_43 rfl rfl ?_
        refine s_iconst (v := 3) hP t25_44 (by decide) ?_
        refine s_isub hP t25_45 ?_
        refine s_invokestatic (bc' := 0) (bs' := 0) hP t25_46 rfl rfl rfl rfl rfl ?_
        refine sp84 ?_
        rw [show mi_iw (nI (3 * O)) 0 (Int32.ofNat 12 - 3) = true from mi_iw_at (N := 9) (by decide) (by omega)]
        refine s_zne hP t25_49 (fun q49 => ?_) (fun q49 => ?_)
        · refine s_aload_n hP t25_53 rfl ?_
          refine s_iload_n hP t25_54 rfl ?_
          refine s_iaload hP t25_55 rfl (vp_in_nI (by omega) (by decide)) ?_
          rw [nI_clamp (by omega)]
          refine s_aload_n hP t25_56 rfl ?_
          refine s_getfield hP t25_57 rfl rfl ?_
          refine s_iadd hP t25_60 ?_
          refine s_istore_n_3 hP t25_61 (by exact rfl) ?_
          refine s_aload_n hP t25_62 rfl ?_
          refine s_iload_n hP t25_63 rfl ?_
          refine s_iconst (v := 1) hP t25_64 (by decide) ?_
          refine s_iadd hP t25_65 ?_
          rw [show nI (3 * O) + 1 = nI (3 * O + 1) from nI_add (3 * O) 1]
          refine s_iaload hP t25_66 rfl (vp_in_nI (by omega) (by decide)) ?_
          rw [nI_clamp (by omega)]
          refine s_aload_n hP t25_67 rfl ?_
          refine s_getfield hP t25_68 rfl rfl ?_
          refine s_iadd hP t25_71 ?_
          refine s_istore_4 hP t25_72 (by exact rfl) ?_
          refine s_aload_n hP t25_74 rfl ?_
          refine s_iload_n hP t25_75 rfl ?_
          refine s_iconst (v := 2) hP t25_76 (by decide) ?_
          refine s_iadd hP t25_77 ?_
          rw [show nI (3 * O) + 2 = nI (3 * O + 2) from nI_add (3 * O) 2]
          refine s_iaload hP t25_78 rfl (vp_in_nI (by omega) (by decide)) ?_
          rw [nI_clamp (by omega)]
          refine s_aload_n hP t25_79 rfl ?_
          refine s_getfield hP t25_80 rfl rfl ?_
          refine s_iadd hP t25_83 ?_
          refine s_istore_5 hP t25_84 (by exact rfl) ?_
          refine s_aload_n hP t25_86 rfl ?_
          refine s_getfield hP t25_87 rfl rfl ?_
          refine s_aload_n hP t25_90 rfl ?_
          refine s_getfield hP t25_91 rfl rfl ?_
          refine s_iconst (v := 0) hP t25_94 (by decide) ?_
          refine s_iaload hP t25_95 rfl (vp_in_nI (n := 0) (by decide) (by decide)) ?_
          refine s_aload_n hP t25_96 rfl ?_
          refine s_getfield hP t25_97 rfl rfl ?_
          refine s_iconst (v := 1) hP t25_100 (by decide) ?_
          refine s_iaload hP t25_101 rfl (vp_in_nI (n := 1) (by decide) (by decide)) ?_
          refine s_aload_n hP t25_102 rfl ?_
          refine s_getfield hP t25_103 rfl rfl ?_
          refine s_iconst (v := 2) hP t25_106 (by decide) ?_
          refine s_iaload hP t25_107 rfl (vp_in_nI (n := 2) (by decide) (by decide)) ?_
          refine s_iload_n hP t25_108 rfl ?_
          refine s_iload hP t25_109 rfl ?_
          refine s_iload hP t25_111 rfl ?_
          refine s_invokevirtual (bc' := 0) (bs' := 0) hP t25_113 rfl rfl rfl rfl rfl ?_
          refine sp43_1_e (a1 := a1) (s1 := s1) (f := f) (g := g) (e := e) (es := []) (L := 0) ml_hold_nil rfl (by decide) (fun f9 g9 h9 => ?_)
          refine s_aload_n hP t25_116 rfl ?_
          refine s_getfield hP t25_117 rfl rfl ?_
          refine s_iload_n hP t25_120 rfl ?_
          refine s_iload hP t25_121 rfl ?_
          refine s_iload hP t25_123 rfl ?_
          refine s_invokevirtual (bc' := 0) (bs' := 0) hP t25_125 rfl rfl rfl rfl rfl ?_
          refine sp44_1 (a1 := mq_a a1 f9 g9 e) ?_
          rw [mq_a_e]
          refine s_return_ hP t25_128 rfl ?_
          exact k f9 g9 h9
        · cases q49
      · exact absurd h14 q26
    · exact absurd h14 q4
  · have eb : ∀ i, mb_b ha a1 s1 i = a1 3 i := fun i => by rw [mb_b, if_neg h14]
    rw [eb, eb, eb] at k
    refine s_aload_n hP t25_0 rfl ?_
    refine s_getfield hP t25_1 rfl rfl ?_
    refine s_if_eq hP t25_4 (fun q4 => ?_) (fun q4 => ?_)
    · exact absurd q4 h14
    · refine s_aload_n hP t25_7 rfl ?_
      refine s_getfield hP t25_8 rfl rfl ?_
      refine s_goto hP t25_11 ?_
      refine s_astore_n_1 hP t25_21 (by exact rfl) ?_
      refine s_aload_n hP t25_22 rfl ?_
      refine s_getfield hP t25_23 rfl rfl ?_
      refine s_if_eq hP t25_26 (fun q26 => ?_) (fun q26 => ?_)
      · exact absurd q26 h14
      · refine s_iconst (v := 0) hP t25_29 (by decide) ?_
        refine s_goto hP t25_30 ?_
        refine s_istore_n_2 hP t25_39 (by exact rfl) ?_
        refine s_iload_n hP t25_40 rfl ?_
        refine s_iconst (v := 0) hP t25_41 (by decide) ?_
        refine s_aload_n hP t25_42 rfl ?_
        refine s_arraylength hP t25_43 rfl rfl ?_
        refine s_iconst (v := 3) hP t25_44 (by decide) ?_
        refine s_isub hP t25_45 ?_
        refine s_invokestatic (bc' := 0) (bs' := 0) hP t25_46 rfl rfl rfl rfl rfl ?_
        refine sp84 ?_
        rw [show mi_iw 0 0 (Int32.ofNat 3 - 3) = true from by decide +kernel]
        refine s_zne hP t25_49 (fun q49 => ?_) (fun q49 => ?_)
        · refine s_aload_n hP t25_53 rfl ?_
          refine s_iload_n hP t25_54 rfl ?_
          refine s_iaload hP t25_55 rfl (vp_in_nI (n := 0) (by decide) (by decide)) ?_
          refine s_aload_n hP t25_56 rfl ?_
          refine s_getfield hP t25_57 rfl rfl ?_
          refine s_iadd hP t25_60 ?_
          refine s_istore_n_3 hP t25_61 (by exact rfl) ?_
          refine s_aload_n hP t25_62 rfl ?_
          refine s_iload_n hP t25_63 rfl ?_
          refine s_iconst (v := 1) hP t25_64 (by decide) ?_
          refine s_iadd hP t25_65 ?_
          refine s_iaload hP t25_66 rfl (vp_in_nI (n := 1) (by decide) (by decide)) ?_
          refine s_aload_n hP t25_67 rfl ?_
          refine s_getfield hP t25_68 rfl rfl ?_
          refine s_iadd hP t25_71 ?_
          refine s_istore_4 hP t25_72 (by exact rfl) ?_
          refine s_aload_n hP t25_74 rfl ?_
          refine s_iload_n hP t25_75 rfl ?_
          refine s_iconst (v := 2) hP t25_76 (by decide) ?_
          refine s_iadd hP t25_77 ?_
          refine s_iaload hP t25_78 rfl (vp_in_nI (n := 2) (by decide) (by decide)) ?_
          refine s_aload_n hP t25_79 rfl ?_
          refine s_getfield hP t25_80 rfl rfl ?_
          refine s_iadd hP t25_83 ?_
          refine s_istore_5 hP t25_84 (by exact rfl) ?_
          refine s_aload_n hP t25_86 rfl ?_
          refine s_getfield hP t25_87 rfl rfl ?_
          refine s_aload_n hP t25_90 rfl ?_
          refine s_getfield hP t25_91 rfl rfl ?_
          refine s_iconst (v := 0) hP t25_94 (by decide) ?_
          refine s_iaload hP t25_95 rfl (vp_in_nI (n := 0) (by decide) (by decide)) ?_
          refine s_aload_n hP t25_96 rfl ?_
          refine s_getfield hP t25_97 rfl rfl ?_
          refine s_iconst (v := 1) hP t25_100 (by decide) ?_
          refine s_iaload hP t25_101 rfl (vp_in_nI (n := 1) (by decide) (by decide)) ?_
          refine s_aload_n hP t25_102 rfl ?_
          refine s_getfield hP t25_103 rfl rfl ?_
          refine s_iconst (v := 2) hP t25_106 (by decide) ?_
          refine s_iaload hP t25_107 rfl (vp_in_nI (n := 2) (by decide) (by decide)) ?_
          refine s_iload_n hP t25_108 rfl ?_
          refine s_iload hP t25_109 rfl ?_
          refine s_iload hP t25_111 rfl ?_
          refine s_invokevirtual (bc' := 0) (bs' := 0) hP t25_113 rfl rfl rfl rfl rfl ?_
          refine sp43_1_e (a1 := a1) (s1 := s1) (f := f) (g := g) (e := e) (es := []) (L := 0) ml_hold_nil rfl (by decide) (fun f9 g9 h9 => ?_)
          refine s_aload_n hP t25_116 rfl ?_
          refine s_getfield hP t25_117 rfl rfl ?_
          refine s_iload_n hP t25_120 rfl ?_
          refine s_iload hP t25_121 rfl ?_
          refine s_iload hP t25_123 rfl ?_
          refine s_invokevirtual (bc' := 0) (bs' := 0) hP t25_125 rfl rfl rfl rfl rfl ?_
          refine sp44_1 (a1 := mq_a a1 f9 g9 e) ?_
          rw [mq_a_e]
          refine s_return_ hP t25_128 rfl ?_
          exact k f9 g9 h9
        · cases q49
set_option maxHeartbeats 1000000 in
theorem sp24_1 {d : Nat} {K : am_K} {ha : Nat → Nat → Int32} {hz : Int32} {a1 : Nat → Nat → Int32} {s1 : Nat → Int32} {t1 : UInt32} {a2 : Nat → Nat → Int32} {s2 : Nat → Int32} {t2 : UInt32} {al : Int32} {ma : Nat → Nat → Int32} {ms : Nat → Int32} {mt : UInt32} {ol : Nat → Int64} {od : Nat → UInt64} (hof : s1 14 = 0 → ∃ O, s1 13 = nI O ∧ O < 4) (h100 : s1 16 = 100 → ∃ A B, s1 17 = nI A ∧ s1 18 = nI B ∧ A ≤ 50 ∧ 1 ≤ B ∧ B ≤ 50) (h112 : s1 16 = 112 → ∃ A B C, s1 17 = nI A ∧ s1 18 = nI B ∧ s1 19 = nI C ∧ A ≤ 50 ∧ B ≤ 50 ∧ C ≤ 50) (k : ∀ (f' g' e' : Nat → Int32) {L : Nat}, ml_hold f' g' (ml_legs (s1 16) (s1 17) (s1 18) (s1 19) (a1 3 0) (a1 3 1) (a1 3 2) (mb_b ha a1 s1 0) (mb_b ha a1 s1 1) (mb_b ha a1 s1 2)) → e' 0 = (ml_ex (s1 16) (s1 17) (s1 18) (a1 3 0) (mb_b ha a1 s1 0)) → e' 1 = (ml_ey (s1 16) (s1 18) (a1 3 1) (mb_b ha a1 s1 1)) → e' 2 = (ml_ez (s1 16) (s1 19) (a1 3 2) (mb_b ha a1 s1 2)) → L = (ml_legs (s1 16) (s1 17) (s1 18) (s1 19) (a1 3 0) (a1 3 1) (a1 3 2) (mb_b ha a1 s1 0) (mb_b ha a1 s1 1) (mb_b ha a1 s1 2)).length → K none (am_W ha hz (mq_a a1 f' g' e') (mq_s s1 L) t1 a2 s2 t2 al ma ms mt ol od)) : am_Run (d + 4) 24 [.ref 15] (am_W ha hz a1 s1 t1 a2 s2 t2 al ma ms mt ol od) K := by
  refine ⟨rfl, fun P hm hP => ?_⟩
  show P 0 [some (.ref 15)] [] _ 0 0
  refine s_aload_n hP t24_0 rfl ?_
  refine s_getfield hP t24_1 rfl rfl ?_
  refine s_invokevirtual (bc' := 0) (bs' := 0) hP t24_4 rfl rfl rfl rfl rfl ?_
  refine sp42_1 ?_
  refine s_aload_n hP t24_7 rfl ?_
  refine s_getfield hP t24_8 rfl rfl ?_
  refine s_aload_n hP t24_11 rfl ?_
  refine s_getfield hP t24_12 rfl rfl ?_
  refine s_iconst (v := 0) hP t24_15 (by decide) ?_
  refine s_iaload hP t24_16 rfl (vp_in_nI (n := 0) (by decide) (by decide)) ?_
  refine s_aload_n hP t24_17 rfl ?_
  refine s_getfield hP t24_18 rfl rfl ?_
  refine s_iconst (v := 1) hP t24_21 (by decide) ?_
  refine s_iaload hP t24_22 rfl (vp_in_nI (n := 1) (by decide) (by decide)) ?_
  refine s_aload_n hP t24_23 rfl ?_
  refine s_getfield hP t24_24 rfl rfl ?_
  refine s_iconst (v := 2) hP t24_27 (by decide) ?_
  refine s_iaload hP t24_28 rfl (vp_in_nI (n := 2) (by decide) (by decide)) ?_
  refine s_invokevirtual (bc' := 0) (bs' := 0) hP t24_29 rfl rfl rfl rfl rfl ?_
  refine sp44_1 ?_
  have hst : (am_W ha hz (am_u2 a1 7 (mp_3 (a1 7) 0 (a1 3 0) (a1 3 1) (a1 3 2))) (am_u1 s1 20 0) t1 a2 s2 t2 al ma ms mt ol od) = (am_W ha hz (mq_a a1 (a1 5) (a1 6) (mp_3 (a1 7) 0 (a1 3 0) (a1 3 1) (a1 3 2))) (mq_s s1 0) t1 a2 s2 t2 al ma ms mt ol od) := by
    rw [show mq_a a1 (a1 5) (a1 6) (mp_3 (a1 7) 0 (a1 3 0) (a1 3 1) (a1 3 2)) = am_u2 a1 7 (mp_3 (a1 7) 0 (a1 3 0) (a1 3 1) (a1 3 2)) from by rw [← mq_a_e (e := a1 7), mq_a_self]]
    rfl
  show P 32 [some (.ref 15)] [] (am_W ha hz (am_u2 a1 7 (mp_3 (a1 7) 0 (a1 3 0) (a1 3 1) (a1 3 2))) (am_u1 s1 20 0) t1 a2 s2 t2 al ma ms mt ol od) 0 0
  rw [hst]
  refine s_aload_n hP t24_32 rfl ?_
  refine s_getfield hP t24_33 rfl rfl ?_
  refine s_bipush (v := 103) hP t24_36 (by decide) ?_
  refine s_icmp_eq hP t24_38 (fun q38 => ?_) (fun q38 => ?_)
  · refine s_aload_n hP t24_50 rfl ?_
    refine s_invokevirtual (bc' := 0) (bs' := 0) hP t24_51 rfl rfl rfl rfl rfl ?_
    refine sp25_1 (a1 := a1) (s1 := s1) hof (fun f9 g9 h9 => ?_)
    refine s_goto hP t24_54 ?_
    refine s_return_ hP t24_86 rfl ?_
    have hk9 : s1 16 = 103 ∨ s1 16 = 108 := Or.inl q38
    exact k f9 g9 _ (by rw [ml_legs, if_pos hk9]; exact h9) (by rw [ml_ex, if_pos hk9]; exact mp_3_0) (by rw [ml_ey, if_pos hk9]; exact mp_3_1) (by rw [ml_ez, if_pos hk9]; exact mp_3_2) (by rw [ml_legs, if_pos hk9]; rfl)
  · refine s_aload_n hP t24_41 rfl ?_
    refine s_getfield hP t24_42 rfl rfl ?_
    refine s_bipush (v := 108) hP t24_45 (by decide) ?_
    refine s_icmp_ne hP t24_47 (fun q47 => ?_) (fun q47 => ?_)
    · refine s_aload_n hP t24_57 rfl ?_
      refine s_getfield hP t24_58 rfl rfl ?_
      refine s_bipush (v := 100) hP t24_61 (by decide) ?_
      refine s_icmp_ne hP t24_63 (fun q63 => ?_) (fun q63 => ?_)
      · refine s_aload_n hP t24_73 rfl ?_
        refine s_getfield hP t24_74 rfl rfl ?_
        refine s_bipush (v := 112) hP t24_77 (by decide) ?_
        refine s_icmp_ne hP t24_79 (fun q79 => ?_) (fun q79 => ?_)
        · refine s_return_ hP t24_86 rfl ?_
          have hk9 : ¬ (s1 16 = 103 ∨ s1 16 = 108) := fun q => q.elim q38 q47
          have q63 : ¬ s1 16 = 100 := q63
          have q79 : ¬ s1 16 = 112 := q79
          have el : (ml_legs (s1 16) (s1 17) (s1 18) (s1 19) (a1 3 0) (a1 3 1) (a1 3 2) (mb_b ha a1 s1 0) (mb_b ha a1 s1 1) (mb_b ha a1 s1 2)) = [] := by rw [ml_legs, if_neg hk9, if_neg q63, if_neg q79]
          exact k _ _ _ (by rw [el]; exact ml_hold_nil) (by rw [ml_ex, if_neg hk9, if_neg q79]; exact mp_3_0) (by rw [ml_ey, if_neg hk9, if_neg q79]; exact mp_3_1) (by rw [ml_ez, if_neg hk9]; exact mp_3_2) (by rw [el]; rfl)
        · refine s_aload_n hP t24_82 rfl ?_
          refine s_invokevirtual (bc' := 0) (bs' := 0) hP t24_83 rfl rfl rfl rfl rfl ?_
          obtain ⟨A, B, C, hA, hB, hC, hA5, hB5, hC5⟩ := h112 q79
          refine sp27_1 (a1 := a1) (s1 := s1) hA hB hC hB5 (fun f9 g9 h9 => ?_)
          refine s_return_ hP t24_86 rfl ?_
          have hk9 : ¬ (s1 16 = 103 ∨ s1 16 = 108) := fun q => q.elim q38 q47
          have q63 : ¬ s1 16 = 100 := q63
          have q79 : s1 16 = 112 := q79
          have el : (ml_legs (s1 16) (s1 17) (s1 18) (s1 19) (a1 3 0) (a1 3 1) (a1 3 2) (mb_b ha a1 s1 0) (mb_b ha a1 s1 1) (mb_b ha a1 s1 2)) = ([ml_down (a1 3 0) (a1 3 1) (a1 3 2) C, mk_one (a1 3 0) (a1 3 1) ((a1 3 2) - nI C) ((a1 3 0) + nI A) (a1 3 1) ((a1 3 2) - nI C)] ++ ml_pk (a1 3 0) ((a1 3 0) + nI A) (a1 3 1) ((a1 3 2) - nI C) B) := by rw [ml_legs, if_neg hk9, if_neg q63, if_pos q79, hA, hB, hC, nI_clamp (by omega), nI_clamp (by omega)]
          exact k f9 g9 _ (by rw [el]; exact h9) (by rw [ml_ex, if_neg hk9, if_pos q79, hA, hB, nI_clamp (by omega)]; exact mp_3_0) (by rw [ml_ey, if_neg hk9, if_pos q79, hB]; exact mp_3_1) (by rw [ml_ez, if_neg hk9]; exact mp_3_2) (by rw [el])
      · refine s_aload_n hP t24_66 rfl ?_
        refine s_invokevirtual (bc' := 0) (bs' := 0) hP t24_67 rfl rfl rfl rfl rfl ?_
        obtain ⟨A, B, hA, hB, hA5, hB1, hB5⟩ := h100 q63
        refine sp26_1 (a1 := a1) (s1 := s1) hA hB hA5 hB1 hB5 (fun f9 g9 h9 => ?_)
        refine s_goto hP t24_70 ?_
        refine s_return_ hP t24_86 rfl ?_
        have hk9 : ¬ (s1 16 = 103 ∨ s1 16 = 108) := fun q => q.elim q38 q47
        have q63 : s1 16 = 100 := q63
        have hk8 : ¬ s1 16 = 112 := by rw [q63]; decide
        exact k f9 g9 _ (by rw [ml_legs, if_neg hk9, if_pos q63, hA, hB, nI_clamp (by omega), nI_clamp (by omega)]; exact h9) (by rw [ml_ex, if_neg hk9, if_neg hk8]; exact mp_3_0) (by rw [ml_ey, if_neg hk9, if_neg hk8]; exact mp_3_1) (by rw [ml_ez, if_neg hk9]; exact mp_3_2) (by rw [ml_legs, if_neg hk9, if_pos q63, hA, hB, nI_clamp (by omega), nI_clamp (by omega)])
    · refine s_aload_n hP t24_50 rfl ?_
      refine s_invokevirtual (bc' := 0) (bs' := 0) hP t24_51 rfl rfl rfl rfl rfl ?_
      refine sp25_1 (a1 := a1) (s1 := s1) hof (fun f9 g9 h9 => ?_)
      refine s_goto hP t24_54 ?_
      refine s_return_ hP t24_86 rfl ?_
      have hk9 : s1 16 = 103 ∨ s1 16 = 108 := Or.inr q47
      exact k f9 g9 _ (by rw [ml_legs, if_pos hk9]; exact h9) (by rw [ml_ex, if_pos hk9]; exact mp_3_0) (by rw [ml_ey, if_pos hk9]; exact mp_3_1) (by rw [ml_ez, if_pos hk9]; exact mp_3_2) (by rw [ml_legs, if_pos hk9]; rfl)
set_option maxHeartbeats 1000000 in
theorem sp25_2 {d : Nat} {K : am_K} {ha : Nat → Nat → Int32} {hz : Int32} {a1 : Nat → Nat → Int32} {s1 : Nat → Int32} {t1 : UInt32} {a2 : Nat → Nat → Int32} {s2 : Nat → Int32} {t2 : UInt32} {al : Int32} {ma : Nat → Nat → Int32} {ms : Nat → Int32} {mt : UInt32} {ol : Nat → Int64} {od : Nat → UInt64} {f g e : Nat → Int32} (hof : s2 14 = 0 → ∃ O, s2 13 = nI O ∧ O < 4) (k : ∀ f' g' : Nat → Int32, ml_hold f' g' [mk_one (a2 3 0) (a2 3 1) (a2 3 2) ((mb_b ha a2 s2 0) + s2 17) ((mb_b ha a2 s2 1) + s2 18) ((mb_b ha a2 s2 2) + s2 19)] → K none (am_W ha hz a1 s1 t1 (mq_a a2 f' g' (mp_3 e 0 ((mb_b ha a2 s2 0) + s2 17) ((mb_b ha a2 s2 1) + s2 18) ((mb_b ha a2 s2 2) + s2 19))) (mq_s s2 1) t2 al ma ms mt ol od)) : am_Run (d + 3) 25 [.ref 27] (am_W ha hz a1 s1 t1 (mq_a a2 f g e) (mq_s s2 0) t2 al ma ms mt ol od) K := by
  refine ⟨rfl, fun P hm hP => ?_⟩
  show P 0 [some (.ref 27), none, none, none, none, none] [] _ 0 0
  by_cases h14 : s2 14 = 0
  · obtain ⟨O, hO, hO4⟩ := hof h14
    have eb : ∀ i, mb_b ha a2 s2 i = ha 4 (3 * O + i) := fun i => by rw [mb_b, if_pos h14, hO, nI_clamp (by omega)]
    rw [eb, eb, eb] at k
    refine s_aload_n hP t25_0 rfl ?_
    refine s_getfield hP t25_1 rfl rfl ?_
    refine s_if_eq hP t25_4 (fun q4 => ?_) (fun q4 => ?_)
    · refine s_aload_n hP t25_14 rfl ?_
      refine s_getfield hP t25_15 rfl rfl ?_
      refine s_getfield hP t25_18 rfl rfl ?_
      refine s_astore_n_1 hP t25_21 (by exact rfl) ?_
      refine s_aload_n hP t25_22 rfl ?_
      refine s_getfield hP t25_23 rfl rfl ?_
      refine s_if_eq hP t25_26 (fun q26 => ?_) (fun q26 => ?_)
      · refine s_aload_n hP t25_33 rfl ?_
        refine s_getfield hP t25_34 rfl rfl ?_
        refine s_iconst (v := 3) hP t25_37 (by decide) ?_
        refine s_imul hP t25_38 ?_
        rw [show (mq_s s2 0) 13 = nI O from hO, mp_3i]
        refine s_istore_n_2 hP t25_39 (by exact rfl) ?_
        refine s_iload_n hP t25_40 rfl ?_
        refine s_iconst (v := 0) hP t25_41 (by decide) ?_
        refine s_aload_n hP t25_42 rfl ?_
        refine s_arraylength hP t25_43 rfl rfl ?_
        refine s_iconst (v := 3) hP t25_44 (by decide) ?_
        refine s_isub hP t25_45 ?_
        refine s_invokestatic (bc' := 0) (bs' := 0) hP t25_46 rfl rfl rfl rfl rfl ?_
        refine sp84 ?_
        rw [show mi_iw (nI (3 * O)) 0 (Int32.ofNat 12 - 3) = true from mi_iw_at (N := 9) (by decide) (by omega)]
        refine s_zne hP t25_49 (fun q49 => ?_) (fun q49 => ?_)
        · refine s_aload_n hP t25_53 rfl ?_
          refine s_iload_n hP t25_54 rfl ?_
          refine s_iaload hP t25_55 rfl (vp_in_nI (by omega) (by decide)) ?_
          rw [nI_clamp (by omega)]
          refine s_aload_n hP t25_56 rfl ?_
          refine s_getfield hP t25_57 rfl rfl ?_
          refine s_iadd hP t25_60 ?_
          refine s_istore_n_3 hP t25_61 (by exact rfl) ?_
          refine s_aload_n hP t25_62 rfl ?_
          refine s_iload_n hP t25_63 rfl ?_
          refine s_iconst (v := 1) hP t25_64 (by decide) ?_
          refine s_iadd hP t25_65 ?_
          rw [show nI (3 * O) + 1 = nI (3 * O + 1) from nI_add (3 * O) 1]
          refine s_iaload hP t25_66 rfl (vp_in_nI (by omega) (by decide)) ?_
          rw [nI_clamp (by omega)]
          refine s_aload_n hP t25_67 rfl ?_
          refine s_getfield hP t25_68 rfl rfl ?_
          refine s_iadd hP t25_71 ?_
          refine s_istore_4 hP t25_72 (by exact rfl) ?_
          refine s_aload_n hP t25_74 rfl ?_
          refine s_iload_n hP t25_75 rfl ?_
          refine s_iconst (v := 2) hP t25_76 (by decide) ?_
          refine s_iadd hP t25_77 ?_
          rw [show nI (3 * O) + 2 = nI (3 * O + 2) from nI_add (3 * O) 2]
          refine s_iaload hP t25_78 rfl (vp_in_nI (by omega) (by decide)) ?_
          rw [nI_clamp (by omega)]
          refine s_aload_n hP t25_79 rfl ?_
          refine s_getfield hP t25_80 rfl rfl ?_
          refine s_iadd hP t25_83 ?_
          refine s_istore_5 hP t25_84 (by exact rfl) ?_
          refine s_aload_n hP t25_86 rfl ?_
          refine s_getfield hP t25_87 rfl rfl ?_
          refine s_aload_n hP t25_90 rfl ?_
          refine s_getfield hP t25_91 rfl rfl ?_
          refine s_iconst (v := 0) hP t25_94 (by decide) ?_
          refine s_iaload hP t25_95 rfl (vp_in_nI (n := 0) (by decide) (by decide)) ?_
          refine s_aload_n hP t25_96 rfl ?_
          refine s_getfield hP t25_97 rfl rfl ?_
          refine s_iconst (v := 1) hP t25_100 (by decide) ?_
          refine s_iaload hP t25_101 rfl (vp_in_nI (n := 1) (by decide) (by decide)) ?_
          refine s_aload_n hP t25_102 rfl ?_
          refine s_getfield hP t25_103 rfl rfl ?_
          refine s_iconst (v := 2) hP t25_106 (by decide) ?_
          refine s_iaload hP t25_107 rfl (vp_in_nI (n := 2) (by decide) (by decide)) ?_
          refine s_iload_n hP t25_108 rfl ?_
          refine s_iload hP t25_109 rfl ?_
          refine s_iload hP t25_111 rfl ?_
          refine s_invokevirtual (bc' := 0) (bs' := 0) hP t25_113 rfl rfl rfl rfl rfl ?_
          refine sp43_2_e (a2 := a2) (s2 := s2) (f := f) (g := g) (e := e) (es := []) (L := 0) ml_hold_nil rfl (by decide) (fun f9 g9 h9 => ?_)
          refine s_aload_n hP t25_116 rfl ?_
          refine s_getfield hP t25_117 rfl rfl ?_
          refine s_iload_n hP t25_120 rfl ?_
          refine s_iload hP t25_121 rfl ?_
          refine s_iload hP t25_123 rfl ?_
          refine s_invokevirtual (bc' := 0) (bs' := 0) hP t25_125 rfl rfl rfl rfl rfl ?_
          refine sp44_2 (a2 := mq_a a2 f9 g9 e) ?_
          rw [mq_a_e]
          refine s_return_ hP t25_128 rfl ?_
          exact k f9 g9 h9
        · cases q49
      · exact absurd h14 q26
    · exact absurd h14 q4
  · have eb : ∀ i, mb_b ha a2 s2 i = a2 3 i := fun i => by rw [mb_b, if_neg h14]
    rw [eb, eb, eb] at k
    refine s_aload_n hP t25_0 rfl ?_
    refine s_getfield hP t25_1 rfl rfl ?_
    refine s_if_eq hP t25_4 (fun q4 => ?_) (fun q4 => ?_)
    · exact absurd q4 h14
    · refine s_aload_n hP t25_7 rfl ?_
      refine s_getfield hP t25_8 rfl rfl ?_
      refine s_goto hP t25_11 ?_
      refine s_astore_n_1 hP t25_21 (by exact rfl) ?_
      refine s_aload_n hP t25_22 rfl ?_
      refine s_getfield hP t25_23 rfl rfl ?_
      refine s_if_eq hP t25_26 (fun q26 => ?_) (fun q26 => ?_)
      · exact absurd q26 h14
      · refine s_iconst (v := 0) hP t25_29 (by decide) ?_
        refine s_goto hP t25_30 ?_
        refine s_istore_n_2 hP t25_39 (by exact rfl) ?_
        refine s_iload_n hP t25_40 rfl ?_
        refine s_iconst (v := 0) hP t25_41 (by decide) ?_
        refine s_aload_n hP t25_42 rfl ?_
        refine s_arraylength hP t25_43 rfl rfl ?_
        refine s_iconst (v := 3) hP t25_44 (by decide) ?_
        refine s_isub hP t25_45 ?_
        refine s_invokestatic (bc' := 0) (bs' := 0) hP t25_46 rfl rfl rfl rfl rfl ?_
        refine sp84 ?_
        rw [show mi_iw 0 0 (Int32.ofNat 3 - 3) = true from by decide +kernel]
        refine s_zne hP t25_49 (fun q49 => ?_) (fun q49 => ?_)
        · refine s_aload_n hP t25_53 rfl ?_
          refine s_iload_n hP t25_54 rfl ?_
          refine s_iaload hP t25_55 rfl (vp_in_nI (n := 0) (by decide) (by decide)) ?_
          refine s_aload_n hP t25_56 rfl ?_
          refine s_getfield hP t25_57 rfl rfl ?_
          refine s_iadd hP t25_60 ?_
          refine s_istore_n_3 hP t25_61 (by exact rfl) ?_
          refine s_aload_n hP t25_62 rfl ?_
          refine s_iload_n hP t25_63 rfl ?_
          refine s_iconst (v := 1) hP t25_64 (by decide) ?_
          refine s_iadd hP t25_65 ?_
          refine s_iaload hP t25_66 rfl (vp_in_nI (n := 1) (by decide) (by decide)) ?_
          refine s_aload_n hP t25_67 rfl ?_
          refine s_getfield hP t25_68 rfl rfl ?_
          refine s_iadd hP t25_71 ?_
          refine s_istore_4 hP t25_72 (by exact rfl) ?_
          refine s_aload_n hP t25_74 rfl ?_
          refine s_iload_n hP t25_75 rfl ?_
          refine s_iconst (v := 2) hP t25_76 (by decide) ?_
          refine s_iadd hP t25_77 ?_
          refine s_iaload hP t25_78 rfl (vp_in_nI (n := 2) (by decide) (by decide)) ?_
          refine s_aload_n hP t25_79 rfl ?_
          refine s_getfield hP t25_80 rfl rfl ?_
          refine s_iadd hP t25_83 ?_
          refine s_istore_5 hP t25_84 (by exact rfl) ?_
          refine s_aload_n hP t25_86 rfl ?_
          refine s_getfield hP t25_87 rfl rfl ?_
          refine s_aload_n hP t25_90 rfl ?_
          refine s_getfield hP t25_91 rfl rfl ?_
          refine s_iconst (v := 0) hP t25_94 (by decide) ?_
          refine s_iaload hP t25_95 rfl (vp_in_nI (n := 0) (by decide) (by decide)) ?_
          refine s_aload_n hP t25_96 rfl ?_
          refine s_getfield hP t25_97 rfl rfl ?_
          refine s_iconst (v := 1) hP t25_100 (by decide) ?_
          refine s_iaload hP t25_101 rfl (vp_in_nI (n := 1) (by decide) (by decide)) ?_
          refine s_aload_n hP t25_102 rfl ?_
          refine s_getfield hP t25_103 rfl rfl ?_
          refine s_iconst (v := 2) hP t25_106 (by decide) ?_
          refine s_iaload hP t25_107 rfl (vp_in_nI (n := 2) (by decide) (by decide)) ?_
          refine s_iload_n hP t25_108 rfl ?_
          refine s_iload hP t25_109 rfl ?_
          refine s_iload hP t25_111 rfl ?_
          refine s_invokevirtual (bc' := 0) (bs' := 0) hP t25_113 rfl rfl rfl rfl rfl ?_
          refine sp43_2_e (a2 := a2) (s2 := s2) (f := f) (g := g) (e := e) (es := []) (L := 0) ml_hold_nil rfl (by decide) (fun f9 g9 h9 => ?_)
          refine s_aload_n hP t25_116 rfl ?_
          refine s_getfield hP t25_117 rfl rfl ?_
          refine s_iload_n hP t25_120 rfl ?_
          refine s_iload hP t25_121 rfl ?_
          refine s_iload hP t25_123 rfl ?_
          refine s_invokevirtual (bc' := 0) (bs' := 0) hP t25_125 rfl rfl rfl rfl rfl ?_
          refine sp44_2 (a2 := mq_a a2 f9 g9 e) ?_
          rw [mq_a_e]
          refine s_return_ hP t25_128 rfl ?_
          exact k f9 g9 h9
        · cases q49
set_option maxHeartbeats 1000000 in
theorem sp24_2 {d : Nat} {K : am_K} {ha : Nat → Nat → Int32} {hz : Int32} {a1 : Nat → Nat → Int32} {s1 : Nat → Int32} {t1 : UInt32} {a2 : Nat → Nat → Int32} {s2 : Nat → Int32} {t2 : UInt32} {al : Int32} {ma : Nat → Nat → Int32} {ms : Nat → Int32} {mt : UInt32} {ol : Nat → Int64} {od : Nat → UInt64} (hof : s2 14 = 0 → ∃ O, s2 13 = nI O ∧ O < 4) (h100 : s2 16 = 100 → ∃ A B, s2 17 = nI A ∧ s2 18 = nI B ∧ A ≤ 50 ∧ 1 ≤ B ∧ B ≤ 50) (h112 : s2 16 = 112 → ∃ A B C, s2 17 = nI A ∧ s2 18 = nI B ∧ s2 19 = nI C ∧ A ≤ 50 ∧ B ≤ 50 ∧ C ≤ 50) (k : ∀ (f' g' e' : Nat → Int32) {L : Nat}, ml_hold f' g' (ml_legs (s2 16) (s2 17) (s2 18) (s2 19) (a2 3 0) (a2 3 1) (a2 3 2) (mb_b ha a2 s2 0) (mb_b ha a2 s2 1) (mb_b ha a2 s2 2)) → e' 0 = (ml_ex (s2 16) (s2 17) (s2 18) (a2 3 0) (mb_b ha a2 s2 0)) → e' 1 = (ml_ey (s2 16) (s2 18) (a2 3 1) (mb_b ha a2 s2 1)) → e' 2 = (ml_ez (s2 16) (s2 19) (a2 3 2) (mb_b ha a2 s2 2)) → L = (ml_legs (s2 16) (s2 17) (s2 18) (s2 19) (a2 3 0) (a2 3 1) (a2 3 2) (mb_b ha a2 s2 0) (mb_b ha a2 s2 1) (mb_b ha a2 s2 2)).length → K none (am_W ha hz a1 s1 t1 (mq_a a2 f' g' e') (mq_s s2 L) t2 al ma ms mt ol od)) : am_Run (d + 4) 24 [.ref 27] (am_W ha hz a1 s1 t1 a2 s2 t2 al ma ms mt ol od) K := by
  refine ⟨rfl, fun P hm hP => ?_⟩
  show P 0 [some (.ref 27)] [] _ 0 0
  refine s_aload_n hP t24_0 rfl ?_
  refine s_getfield hP t24_1 rfl rfl ?_
  refine s_invokevirtual (bc' := 0) (bs' := 0) hP t24_4 rfl rfl rfl rfl rfl ?_
  refine sp42_2 ?_
  refine s_aload_n hP t24_7 rfl ?_
  refine s_getfield hP t24_8 rfl rfl ?_
  refine s_aload_n hP t24_11 rfl ?_
  refine s_getfield hP t24_12 rfl rfl ?_
  refine s_iconst (v := 0) hP t24_15 (by decide) ?_
  refine s_iaload hP t24_16 rfl (vp_in_nI (n := 0) (by decide) (by decide)) ?_
  refine s_aload_n hP t24_17 rfl ?_
  refine s_getfield hP t24_18 rfl rfl ?_
  refine s_iconst (v := 1) hP t24_21 (by decide) ?_
  refine s_iaload hP t24_22 rfl (vp_in_nI (n := 1) (by decide) (by decide)) ?_
  refine s_aload_n hP t24_23 rfl ?_
  refine s_getfield hP t24_24 rfl rfl ?_
  refine s_iconst (v := 2) hP t24_27 (by decide) ?_
  refine s_iaload hP t24_28 rfl (vp_in_nI (n := 2) (by decide) (by decide)) ?_
  refine s_invokevirtual (bc' := 0) (bs' := 0) hP t24_29 rfl rfl rfl rfl rfl ?_
  refine sp44_2 ?_
  have hst : (am_W ha hz a1 s1 t1 (am_u2 a2 7 (mp_3 (a2 7) 0 (a2 3 0) (a2 3 1) (a2 3 2))) (am_u1 s2 20 0) t2 al ma ms mt ol od) = (am_W ha hz a1 s1 t1 (mq_a a2 (a2 5) (a2 6) (mp_3 (a2 7) 0 (a2 3 0) (a2 3 1) (a2 3 2))) (mq_s s2 0) t2 al ma ms mt ol od) := by
    rw [show mq_a a2 (a2 5) (a2 6) (mp_3 (a2 7) 0 (a2 3 0) (a2 3 1) (a2 3 2)) = am_u2 a2 7 (mp_3 (a2 7) 0 (a2 3 0) (a2 3 1) (a2 3 2)) from by rw [← mq_a_e (e := a2 7), mq_a_self]]
    rfl
  show P 32 [some (.ref 27)] [] (am_W ha hz a1 s1 t1 (am_u2 a2 7 (mp_3 (a2 7) 0 (a2 3 0) (a2 3 1) (a2 3 2))) (am_u1 s2 20 0) t2 al ma ms mt ol od) 0 0
  rw [hst]
  refine s_aload_n hP t24_32 rfl ?_
  refine s_getfield hP t24_33 rfl rfl ?_
  refine s_bipush (v := 103) hP t24_36 (by decide) ?_
  refine s_icmp_eq hP t24_38 (fun q38 => ?_) (fun q38 => ?_)
  · refine s_aload_n hP t24_50 rfl ?_
    refine s_invokevirtual (bc' := 0) (bs' := 0) hP t24_51 rfl rfl rfl rfl rfl ?_
    refine sp25_2 (a2 := a2) (s2 := s2) hof (fun f9 g9 h9 => ?_)
    refine s_goto hP t24_54 ?_
    refine s_return_ hP t24_86 rfl ?_
    have hk9 : s2 16 = 103 ∨ s2 16 = 108 := Or.inl q38
    exact k f9 g9 _ (by rw [ml_legs, if_pos hk9]; exact h9) (by rw [ml_ex, if_pos hk9]; exact mp_3_0) (by rw [ml_ey, if_pos hk9]; exact mp_3_1) (by rw [ml_ez, if_pos hk9]; exact mp_3_2) (by rw [ml_legs, if_pos hk9]; rfl)
  · refine s_aload_n hP t24_41 rfl ?_
    refine s_getfield hP t24_42 rfl rfl ?_
    refine s_bipush (v := 108) hP t24_45 (by decide) ?_
    refine s_icmp_ne hP t24_47 (fun q47 => ?_) (fun q47 => ?_)
    · refine s_aload_n hP t24_57 rfl ?_
      refine s_getfield hP t24_58 rfl rfl ?_
      refine s_bipush (v := 100) hP t24_61 (by decide) ?_
      refine s_icmp_ne hP t24_63 (fun q63 => ?_) (fun q63 => ?_)
      · refine s_aload_n hP t24_73 rfl ?_
        refine s_getfield hP t24_74 rfl rfl ?_
        refine s_bipush (v := 112) hP t24_77 (by decide) ?_
        refine s_icmp_ne hP t24_79 (fun q79 => ?_) (fun q79 => ?_)
        · refine s_return_ hP t24_86 rfl ?_
          have hk9 : ¬ (s2 16 = 103 ∨ s2 16 = 108) := fun q => q.elim q38 q47
          have q63 : ¬ s2 16 = 100 := q63
          have q79 : ¬ s2 16 = 112 := q79
          have el : (ml_legs (s2 16) (s2 17) (s2 18) (s2 19) (a2 3 0) (a2 3 1) (a2 3 2) (mb_b ha a2 s2 0) (mb_b ha a2 s2 1) (mb_b ha a2 s2 2)) = [] := by rw [ml_legs, if_neg hk9, if_neg q63, if_neg q79]
          exact k _ _ _ (by rw [el]; exact ml_hold_nil) (by rw [ml_ex, if_neg hk9, if_neg q79]; exact mp_3_0) (by rw [ml_ey, if_neg hk9, if_neg q79]; exact mp_3_1) (by rw [ml_ez, if_neg hk9]; exact mp_3_2) (by rw [el]; rfl)
        · refine s_aload_n hP t24_82 rfl ?_
          refine s_invokevirtual (bc' := 0) (bs' := 0) hP t24_83 rfl rfl rfl rfl rfl ?_
          obtain ⟨A, B, C, hA, hB, hC, hA5, hB5, hC5⟩ := h112 q79
          refine sp27_2 (a2 := a2) (s2 := s2) hA hB hC hB5 (fun f9 g9 h9 => ?_)
          refine s_return_ hP t24_86 rfl ?_
          have hk9 : ¬ (s2 16 = 103 ∨ s2 16 = 108) := fun q => q.elim q38 q47
          have q63 : ¬ s2 16 = 100 := q63
          have q79 : s2 16 = 112 := q79
          have el : (ml_legs (s2 16) (s2 17) (s2 18) (s2 19) (a2 3 0) (a2 3 1) (a2 3 2) (mb_b ha a2 s2 0) (mb_b ha a2 s2 1) (mb_b ha a2 s2 2)) = ([ml_down (a2 3 0) (a2 3 1) (a2 3 2) C, mk_one (a2 3 0) (a2 3 1) ((a2 3 2) - nI C) ((a2 3 0) + nI A) (a2 3 1) ((a2 3 2) - nI C)] ++ ml_pk (a2 3 0) ((a2 3 0) + nI A) (a2 3 1) ((a2 3 2) - nI C) B) := by rw [ml_legs, if_neg hk9, if_neg q63, if_pos q79, hA, hB, hC, nI_clamp (by omega), nI_clamp (by omega)]
          exact k f9 g9 _ (by rw [el]; exact h9) (by rw [ml_ex, if_neg hk9, if_pos q79, hA, hB, nI_clamp (by omega)]; exact mp_3_0) (by rw [ml_ey, if_neg hk9, if_pos q79, hB]; exact mp_3_1) (by rw [ml_ez, if_neg hk9]; exact mp_3_2) (by rw [el])
      · refine s_aload_n hP t24_66 rfl ?_
        refine s_invokevirtual (bc' := 0) (bs' := 0) hP t24_67 rfl rfl rfl rfl rfl ?_
        obtain ⟨A, B, hA, hB, hA5, hB1, hB5⟩ := h100 q63
        refine sp26_2 (a2 := a2) (s2 := s2) hA hB hA5 hB1 hB5 (fun f9 g9 h9 => ?_)
        refine s_goto hP t24_70 ?_
        refine s_return_ hP t24_86 rfl ?_
        have hk9 : ¬ (s2 16 = 103 ∨ s2 16 = 108) := fun q => q.elim q38 q47
        have q63 : s2 16 = 100 := q63
        have hk8 : ¬ s2 16 = 112 := by rw [q63]; decide
        exact k f9 g9 _ (by rw [ml_legs, if_neg hk9, if_pos q63, hA, hB, nI_clamp (by omega), nI_clamp (by omega)]; exact h9) (by rw [ml_ex, if_neg hk9, if_neg hk8]; exact mp_3_0) (by rw [ml_ey, if_neg hk9, if_neg hk8]; exact mp_3_1) (by rw [ml_ez, if_neg hk9]; exact mp_3_2) (by rw [ml_legs, if_neg hk9, if_pos q63, hA, hB, nI_clamp (by omega), nI_clamp (by omega)])
    · refine s_aload_n hP t24_50 rfl ?_
      refine s_invokevirtual (bc' := 0) (bs' := 0) hP t24_51 rfl rfl rfl rfl rfl ?_
      refine sp25_2 (a2 := a2) (s2 := s2) hof (fun f9 g9 h9 => ?_)
      refine s_goto hP t24_54 ?_
      refine s_return_ hP t24_86 rfl ?_
      have hk9 : s2 16 = 103 ∨ s2 16 = 108 := Or.inr q47
      exact k f9 g9 _ (by rw [ml_legs, if_pos hk9]; exact h9) (by rw [ml_ex, if_pos hk9]; exact mp_3_0) (by rw [ml_ey, if_pos hk9]; exact mp_3_1) (by rw [ml_ez, if_pos hk9]; exact mp_3_2) (by rw [ml_legs, if_pos hk9]; rfl)
