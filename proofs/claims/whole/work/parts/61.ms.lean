/-! THE MODEL: what sets it up; it begins anew. (rows by gen/sp24.py) -/
def mb_s0 (s : Nat → Int32) : Nat → Int32 := am_u1 (am_u1 (am_u1 (am_u1 (am_u1 (am_u1 (am_u1 (am_u1 s 17 0) 18 0) 19 (-1)) 20 10) 21 0) 22 0) 23 0) 25 45
def mb_a0 (a : Nat → Nat → Int32) (g u v : Nat → Int32) : Nat → Nat → Int32 := am_u2 (am_u2 (am_u2 (am_u2 a 14 g) 4 u) 9 v) 11 (mp_3 (a 11) 0 0 0 9)
theorem mb_nz : vp_nar .boolean 0 = 0 := by decide
theorem mb_sh {x : Int32} (h : mi_shape x = true) : vp_nar .char x = x := by
  simp only [mi_shape, Bool.or_eq_true, decide_eq_true_eq] at h
  rcases h with (rfl | rfl) | rfl <;> decide
theorem mb_kd {x : Int32} (h : mi_kind x = true) : vp_nar .char x = x := by
  rcases mi_kind_cases h with rfl | rfl | rfl | rfl | rfl | rfl | rfl | rfl | rfl | rfl | rfl | rfl | rfl | rfl | rfl <;> decide
set_option maxHeartbeats 4000000 in
theorem sp100 {d : Nat} {K : am_K} {ha : Nat → Nat → Int32} {hz : Int32} {a1 : Nat → Nat → Int32} {s1 : Nat → Int32} {t1 : UInt32} {a2 : Nat → Nat → Int32} {s2 : Nat → Int32} {t2 : UInt32} {al : Int32} {ma : Nat → Nat → Int32} {ms : Nat → Int32} {mt : UInt32} {ol : Nat → Int64} {od : Nat → UInt64} (k : ∀ g u v : Nat → Int32, (∀ j, j < 1152 → g j = 0) → (∀ j, j < 12 → u j = 0) → (∀ j, j < 8 → v j = 0) → K none (am_W ha hz a1 s1 t1 a2 s2 t2 al (mb_a0 ma g u v) (mb_s0 ms) FP.fconst0 ol od)) : am_Run (d + 1) 100 [.ref 39] (am_W ha hz a1 s1 t1 a2 s2 t2 al ma ms mt ol od) K := by
  refine ⟨rfl, fun P hm hP => ?_⟩
  show P 0 [some (.ref 39), none] [] _ 0 0
  refine s_iconst (v := 0) hP t100_0 (by decide) ?_
  refine s_istore_n_1 hP t100_1 (by exact rfl) ?_
  have after1 : ∀ g : Nat → Int32, (∀ j, j < 1152 → g j = 0) → P 22 [some (.ref 39), some (.int (nI 1152))] [] (am_W ha hz a1 s1 t1 a2 s2 t2 al (am_u2 ma 14 g) ms mt ol od) 0 0 := by
    intro g hg
    have after2 : ∀ u : Nat → Int32, (∀ j, j < 12 → u j = 0) → P 43 [some (.ref 39), some (.int (nI 12))] [] (am_W ha hz a1 s1 t1 a2 s2 t2 al (am_u2 (am_u2 ma 14 g) 4 u) ms mt ol od) 0 0 := by
      intro u hu
      have after3 : ∀ v : Nat → Int32, (∀ j, j < 8 → v j = 0) → P 64 [some (.ref 39), some (.int (nI 8))] [] (am_W ha hz a1 s1 t1 a2 s2 t2 al (am_u2 (am_u2 (am_u2 ma 14 g) 4 u) 9 v) ms mt ol od) 0 0 := by
        intro v hv
        refine s_aload_n hP t100_64 rfl ?_
        refine s_getfield hP t100_65 rfl rfl ?_
        refine s_iconst (v := 0) hP t100_68 (by decide) ?_
        refine s_iconst (v := 0) hP t100_69 (by decide) ?_
        refine s_iastore hP t100_70 rfl (vp_in_nI (n := 0) (by decide) (by decide)) ?_
        refine s_aload_n hP t100_71 rfl ?_
        refine s_getfield hP t100_72 rfl rfl ?_
        refine s_iconst (v := 1) hP t100_75 (by decide) ?_
        refine s_iconst (v := 0) hP t100_76 (by decide) ?_
        refine s_iastore hP t100_77 rfl (vp_in_nI (n := 1) (by decide) (by decide)) ?_
        refine s_aload_n hP t100_78 rfl ?_
        refine s_getfield hP t100_79 rfl rfl ?_
        refine s_iconst (v := 2) hP t100_82 (by decide) ?_
        refine s_bipush (v := 9) hP t100_83 (by decide) ?_
        refine s_iastore hP t100_85 rfl (vp_in_nI (n := 2) (by decide) (by decide)) ?_
        refine s_aload_n hP t100_86 rfl ?_
        refine s_iconst (v := 0) hP t100_87 (by decide) ?_
        refine s_putfield hP t100_88 rfl rfl rfl rfl ?_
        refine s_aload_n hP t100_91 rfl ?_
        refine s_iconst (v := 0) hP t100_92 (by decide) ?_
        refine s_putfield hP t100_93 rfl rfl rfl rfl ?_
        refine s_aload_n hP t100_96 rfl ?_
        refine s_iconst (v := (-1)) hP t100_97 (by decide) ?_
        refine s_putfield hP t100_98 rfl rfl rfl rfl ?_
        refine s_aload_n hP t100_101 rfl ?_
        refine s_bipush (v := 10) hP t100_102 (by decide) ?_
        refine s_putfield hP t100_104 rfl rfl rfl rfl ?_
        refine s_aload_n hP t100_107 rfl ?_
        refine s_iconst (v := 0) hP t100_108 (by decide) ?_
        refine s_putfield hP t100_109 rfl rfl rfl rfl ?_
        refine s_aload_n hP t100_112 rfl ?_
        refine s_iconst (v := 0) hP t100_113 (by decide) ?_
        refine s_putfield hP t100_114 rfl rfl rfl rfl ?_
        refine s_aload_n hP t100_117 rfl ?_
        refine s_iconst (v := 0) hP t100_118 (by decide) ?_
        refine s_putfield hP t100_119 rfl rfl rfl rfl ?_
        refine s_aload_n hP t100_122 rfl ?_
        refine s_fconst0 hP t100_123 ?_
        refine s_putfield hP t100_124 rfl rfl rfl rfl ?_
        refine s_aload_n hP t100_127 rfl ?_
        refine s_bipush (v := 45) hP t100_128 (by decide) ?_
        refine s_putfield hP t100_130 rfl rfl rfl rfl ?_
        refine s_return_ hP t100_133 rfl ?_
        exact k g u v hg hu hv
      have loop3 : ∀ (n i : Nat) (v : Nat → Int32), i ≤ 8 → 8 + 1 ≤ i + n → (∀ j, j < i → v j = 0) → P 45 [some (.ref 39), some (.int (nI i))] [] (am_W ha hz a1 s1 t1 a2 s2 t2 al (am_u2 (am_u2 (am_u2 ma 14 g) 4 u) 9 v) ms mt ol od) 0 0 := by
        intro n
        induction n with
        | zero => intro i v h3 h4; omega
        | succ n ih =>
          intro i v h3 h4 hi
          refine s_iload_n hP t100_45 rfl ?_
          refine s_bipush (v := 8) hP t100_46 (by decide) ?_
          refine s_icmp_ge hP t100_48 (fun q48 => ?_) (fun q48 => ?_)
          · have e9 : 8 ≤ i := mi_leN (by decide) (by omega) q48
            obtain rfl : i = 8 := by omega
            exact after3 v hi
          · have e9 : i < 8 := mi_nleN (a := 8) (by decide) (by omega) q48
            refine s_aload_n hP t100_51 rfl ?_
            refine s_getfield hP t100_52 rfl rfl ?_
            refine s_iload_n hP t100_55 rfl ?_
            refine s_iconst (v := 0) hP t100_56 (by decide) ?_
            refine s_iastore hP t100_57 rfl (vp_in_nI e9 (by decide)) ?_
            rw [nI_clamp (by omega)]
            refine s_iinc_1 (v := 1) hP t100_58 (by decide) (by exact rfl) ?_
            refine s_goto hP t100_61 ?_
            rw [nI_1]
            exact ih (i + 1) (upd v i 0) (by omega) (by omega) (fun j hj => by
              by_cases hji : j = i
              · rw [hji]; exact pk_us
              · rw [show upd v i 0 j = v j from pk_un hji]; exact hi j (by omega))
      refine s_iconst (v := 0) hP t100_43 (by decide) ?_
      refine s_istore_n_1 hP t100_44 (by exact rfl) ?_
      exact loop3 9 0 (ma 9) (by omega) (by omega) (fun j hj => by omega)
    have loop2 : ∀ (n i : Nat) (u : Nat → Int32), i ≤ 12 → 12 + 1 ≤ i + n → (∀ j, j < i → u j = 0) → P 24 [some (.ref 39), some (.int (nI i))] [] (am_W ha hz a1 s1 t1 a2 s2 t2 al (am_u2 (am_u2 ma 14 g) 4 u) ms mt ol od) 0 0 := by
      intro n
      induction n with
      | zero => intro i u h3 h4; omega
      | succ n ih =>
        intro i u h3 h4 hi
        refine s_iload_n hP t100_24 rfl ?_
        refine s_bipush (v := 12) hP t100_25 (by decide) ?_
        refine s_icmp_ge hP t100_27 (fun q27 => ?_) (fun q27 => ?_)
        · have e9 : 12 ≤ i := mi_leN (by decide) (by omega) q27
          obtain rfl : i = 12 := by omega
          exact after2 u hi
        · have e9 : i < 12 := mi_nleN (a := 12) (by decide) (by omega) q27
          refine s_aload_n hP t100_30 rfl ?_
          refine s_getfield hP t100_31 rfl rfl ?_
          refine s_iload_n hP t100_34 rfl ?_
          refine s_iconst (v := 0) hP t100_35 (by decide) ?_
          refine s_iastore hP t100_36 rfl (vp_in_nI e9 (by decide)) ?_
          rw [nI_clamp (by omega)]
          refine s_iinc_1 (v := 1) hP t100_37 (by decide) (by exact rfl) ?_
          refine s_goto hP t100_40 ?_
          rw [nI_1]
          exact ih (i + 1) (upd u i 0) (by omega) (by omega) (fun j hj => by
            by_cases hji : j = i
            · rw [hji]; exact pk_us
            · rw [show upd u i 0 j = u j from pk_un hji]; exact hi j (by omega))
    refine s_iconst (v := 0) hP t100_22 (by decide) ?_
    refine s_istore_n_1 hP t100_23 (by exact rfl) ?_
    exact loop2 13 0 (ma 4) (by omega) (by omega) (fun j hj => by omega)
  have loop1 : ∀ (n i : Nat) (g : Nat → Int32), i ≤ 1152 → 1152 + 1 ≤ i + n → (∀ j, j < i → g j = 0) → P 2 [some (.ref 39), some (.int (nI i))] [] (am_W ha hz a1 s1 t1 a2 s2 t2 al (am_u2 ma 14 g) ms mt ol od) 0 0 := by
    intro n
    induction n with
    | zero => intro i g h3 h4; omega
    | succ n ih =>
      intro i g h3 h4 hi
      refine s_iload_n hP t100_2 rfl ?_
      refine s_sipush (v := 1152) hP t100_3 (by decide) ?_
      refine s_icmp_ge hP t100_6 (fun q6 => ?_) (fun q6 => ?_)
      · have e9 : 1152 ≤ i := mi_leN (by decide) (by omega) q6
        obtain rfl : i = 1152 := by omega
        exact after1 g hi
      · have e9 : i < 1152 := mi_nleN (a := 1152) (by decide) (by omega) q6
        refine s_aload_n hP t100_9 rfl ?_
        refine s_getfield hP t100_10 rfl rfl ?_
        refine s_iload_n hP t100_13 rfl ?_
        refine s_iconst (v := 0) hP t100_14 (by decide) ?_
        refine s_bastore hP t100_15 rfl (vp_in_nI e9 (by decide)) ?_
        rw [nI_clamp (by omega), mb_nz]
        refine s_iinc_1 (v := 1) hP t100_16 (by decide) (by exact rfl) ?_
        refine s_goto hP t100_19 ?_
        rw [nI_1]
        exact ih (i + 1) (upd g i 0) (by omega) (by omega) (fun j hj => by
          by_cases hji : j = i
          · rw [hji]; exact pk_us
          · rw [show upd g i 0 j = g j from pk_un hji]; exact hi j (by omega))
  exact loop1 1153 0 (ma 14) (by omega) (by omega) (fun j hj => by omega)
set_option maxHeartbeats 1000000 in
theorem sp135 {d : Nat} {K : am_K} {ha : Nat → Nat → Int32} {hz : Int32} {a1 : Nat → Nat → Int32} {s1 : Nat → Int32} {t1 : UInt32} {a2 : Nat → Nat → Int32} {s2 : Nat → Int32} {t2 : UInt32} {al : Int32} {ma : Nat → Nat → Int32} {ms : Nat → Int32} {mt : UInt32} {ol : Nat → Int64} {od : Nat → UInt64} (k : ∀ g u v : Nat → Int32, (∀ j, j < 1152 → g j = 0) → (∀ j, j < 12 → u j = 0) → (∀ j, j < 8 → v j = 0) → K (some (.int (ms 18))) (am_W ha hz a1 s1 t1 a2 s2 t2 al (mb_a0 ma g u v) (am_u1 (mb_s0 ms) 15 0) FP.fconst0 ol od)) : am_Run (d + 2) 135 [.ref 39] (am_W ha hz a1 s1 t1 a2 s2 t2 al ma ms mt ol od) K := by
  refine ⟨rfl, fun P hm hP => ?_⟩
  show P 0 [some (.ref 39), none] [] _ 0 0
  refine s_aload_n hP t135_0 rfl ?_
  refine s_getfield hP t135_1 rfl rfl ?_
  refine s_istore_n_1 hP t135_4 (by exact rfl) ?_
  refine s_aload_n hP t135_5 rfl ?_
  refine s_invokevirtual (bc' := 0) (bs' := 0) hP t135_6 rfl rfl rfl rfl rfl ?_
  refine sp100 (fun g u v hg hu hv => ?_)
  refine s_aload_n hP t135_9 rfl ?_
  refine s_iload_n hP t135_10 rfl ?_
  refine s_invokevirtual (bc' := 0) (bs' := 0) hP t135_11 rfl rfl rfl rfl rfl ?_
  refine sp98 ?_
  refine s_ireturn hP t135_14 rfl rfl ?_
  exact k g u v hg hu hv
set_option maxHeartbeats 2000000 in
theorem sp105 {d : Nat} {K : am_K} {ha : Nat → Nat → Int32} {hz : Int32} {a1 : Nat → Nat → Int32} {s1 : Nat → Int32} {t1 : UInt32} {a2 : Nat → Nat → Int32} {s2 : Nat → Int32} {t2 : UInt32} {al : Int32} {ma : Nat → Nat → Int32} {ms : Nat → Int32} {mt : UInt32} {ol : Nat → Int64} {od : Nat → UInt64} {T : Nat → Bool} (hT : ∀ q, q < 1152 → ma 13 q = am_b (T q)) {x y z : Int32} {b : Bool} (kin : ∀ X Y Z, X < 16 → Y < 12 → Z < 6 → x = nI X → y = nI Y → z = nI Z → ∀ g u v : Nat → Int32, (∀ j, j < 1152 → g j = 0) → (∀ j, j < 12 → u j = 0) → (∀ j, j < 8 → v j = 0) → K (some (.int (am_b (T (X + 16 * Y + 192 * Z))))) (am_W ha hz a1 s1 t1 a2 s2 t2 al (mb_a0 (am_u2 ma 13 (upd (ma 13) (X + 16 * Y + 192 * Z) (am_b b))) g u v) (mb_s0 (am_u1 ms 15 0)) FP.fconst0 ol od)) (kout : mi_cell x y z = false → K (some (.int 0)) (am_W ha hz a1 s1 t1 a2 s2 t2 al ma (am_u1 ms 15 1) mt ol od)) : am_Run (d + 3) 105 [.ref 39, .int x, .int y, .int z, .int (am_b b)] (am_W ha hz a1 s1 t1 a2 s2 t2 al ma ms mt ol od) K := by
  refine ⟨rfl, fun P hm hP => ?_⟩
  show P 0 [some (.ref 39), some (.int x), some (.int y), some (.int z), some (.int (am_b b)), none] [] _ 0 0
  refine s_aload_n hP t105_0 rfl ?_
  refine s_iload_n hP t105_1 rfl ?_
  refine s_iload_n hP t105_2 rfl ?_
  refine s_iload_n hP t105_3 rfl ?_
  refine s_invokestatic (bc' := 0) (bs' := 0) hP t105_4 rfl rfl rfl rfl rfl ?_
  refine sp103 ?_
  refine s_invokevirtual (bc' := 0) (bs' := 0) hP t105_7 rfl rfl rfl rfl rfl ?_
  refine sp99 ?_
  refine s_if_le hP t105_10 (fun q10 => ?_) (fun q10 => ?_)
  · have e10 : mi_cell x y z = true := by
      cases h9 : mi_cell x y z
      · rw [h9] at q10
        exact absurd q10 (by decide)
      · rfl
    rw [e10]
    obtain ⟨X, Y, Z, hX, hY, hZ, rfl, rfl, rfl⟩ := mi_cell_nI e10
    refine s_aload_n hP t105_15 rfl ?_
    refine s_getfield hP t105_16 rfl rfl ?_
    refine s_iload_n hP t105_19 rfl ?_
    refine s_iload_n hP t105_20 rfl ?_
    refine s_iload_n hP t105_21 rfl ?_
    refine s_invokestatic (bc' := 0) (bs' := 0) hP t105_22 rfl rfl rfl rfl rfl ?_
    refine sp104 ?_
    rw [show nI X + 16 * nI Y + 192 * nI Z = nI (X + 16 * Y + 192 * Z) by rw [show (16 : Int32) = nI 16 from rfl, show (192 : Int32) = nI 192 from rfl, pk_mul, pk_mul, nI_add, nI_add]]
    refine s_baload hP t105_25 rfl (vp_in_nI (by omega) (by decide)) ?_
    rw [nI_clamp (by omega), hT _ (by omega)]
    refine s_istore_5 hP t105_26 (by exact rfl) ?_
    refine s_aload_n hP t105_28 rfl ?_
    refine s_getfield hP t105_29 rfl rfl ?_
    refine s_iload_n hP t105_32 rfl ?_
    refine s_iload_n hP t105_33 rfl ?_
    refine s_iload_n hP t105_34 rfl ?_
    refine s_invokestatic (bc' := 0) (bs' := 0) hP t105_35 rfl rfl rfl rfl rfl ?_
    refine sp104 ?_
    rw [show nI X + 16 * nI Y + 192 * nI Z = nI (X + 16 * Y + 192 * Z) by rw [show (16 : Int32) = nI 16 from rfl, show (192 : Int32) = nI 192 from rfl, pk_mul, pk_mul, nI_add, nI_add]]
    refine s_iload hP t105_38 rfl ?_
    refine s_bastore hP t105_40 rfl (vp_in_nI (by omega) (by decide)) ?_
    rw [nI_clamp (by omega), show vp_nar .boolean (am_b b) = am_b b by cases b <;> decide]
    refine s_aload_n hP t105_41 rfl ?_
    refine s_invokevirtual (bc' := 0) (bs' := 0) hP t105_42 rfl rfl rfl rfl rfl ?_
    refine sp100 (ma := am_u2 ma 13 (upd (ma 13) (X + 16 * Y + 192 * Z) (am_b b))) (ms := am_u1 ms 15 0) (fun g u v hg hu hv => ?_)
    refine s_iload hP t105_45 rfl ?_
    refine s_ireturn hP t105_47 rfl (am_nar_b _) ?_
    exact kin X Y Z hX hY hZ rfl rfl rfl g u v hg hu hv
  · have e10 : mi_cell x y z = false := by
      cases h9 : mi_cell x y z
      · rfl
      · rw [h9] at q10
        exact absurd (by decide) q10
    rw [e10]
    refine s_iconst (v := 0) hP t105_13 (by decide) ?_
    refine s_ireturn hP t105_14 rfl rfl ?_
    exact kout e10
set_option maxHeartbeats 4000000 in
theorem sp106 {d : Nat} {K : am_K} {ha : Nat → Nat → Int32} {hz : Int32} {a1 : Nat → Nat → Int32} {s1 : Nat → Int32} {t1 : UInt32} {a2 : Nat → Nat → Int32} {s2 : Nat → Int32} {t2 : UInt32} {al : Int32} {ma : Nat → Nat → Int32} {ms : Nat → Int32} {mt : UInt32} {ol : Nat → Int64} {od : Nat → UInt64} {x y z w : Int32} (kin : ∀ A, A < 4 → x = nI A → mi_iw y (-15) 15 = true → mi_iw z (-15) 15 = true → mi_iw w (-15) 15 = true → ∀ g u v : Nat → Int32, (∀ j, j < 1152 → g j = 0) → (∀ j, j < 12 → u j = 0) → (∀ j, j < 8 → v j = 0) → K (some (.int (ma 10 (3 * A)))) (am_W ha hz a1 s1 t1 a2 s2 t2 al (mb_a0 (am_u2 ma 10 (mp_3 (ma 10) (3 * A) y z w)) g u v) (mb_s0 (am_u1 ms 15 0)) FP.fconst0 ol od)) (kout : (mi_iw x 0 3 && (mi_iw y (-15) 15 && (mi_iw z (-15) 15 && mi_iw w (-15) 15))) = false → K (some (.int 0)) (am_W ha hz a1 s1 t1 a2 s2 t2 al ma (am_u1 ms 15 1) mt ol od)) : am_Run (d + 2) 106 [.ref 39, .int x, .int y, .int z, .int w] (am_W ha hz a1 s1 t1 a2 s2 t2 al ma ms mt ol od) K := by
  refine ⟨rfl, fun P hm hP => ?_⟩
  show P 0 [some (.ref 39), some (.int x), some (.int y), some (.int z), some (.int w), none] [] _ 0 0
  refine s_aload_n hP t106_0 rfl ?_
  refine s_iload_n hP t106_1 rfl ?_
  refine s_iconst (v := 0) hP t106_2 (by decide) ?_
  refine s_iconst (v := 3) hP t106_3 (by decide) ?_
  refine s_invokestatic (bc' := 0) (bs' := 0) hP t106_4 rfl rfl rfl rfl rfl ?_
  refine sp97 ?_
  refine s_zeq hP t106_7 (fun q7 => ?_) (fun q7 => ?_)
  · refine s_iconst (v := 0) hP t106_48 (by decide) ?_
    refine s_invokevirtual (bc' := 0) (bs' := 0) hP t106_49 rfl rfl rfl rfl rfl ?_
    refine sp99 (x := false) ?_
    refine s_if_le hP t106_52 (fun q52 => ?_) (fun q52 => ?_)
    · exact absurd q52 (show ¬ (1 : Int32) ≤ 0 by decide)
    · refine s_iconst (v := 0) hP t106_55 (by decide) ?_
      refine s_ireturn hP t106_56 rfl rfl ?_
      exact kout (by rw [q7]; rfl)
  · obtain ⟨A, hA, rfl⟩ := mi_iw_nI (N := 3) rfl (by decide) q7
    refine s_iload_n hP t106_10 rfl ?_
    refine s_bipush (v := (-15)) hP t106_11 (by decide) ?_
    refine s_bipush (v := 15) hP t106_13 (by decide) ?_
    refine s_invokestatic (bc' := 0) (bs' := 0) hP t106_15 rfl rfl rfl rfl rfl ?_
    refine sp97 ?_
    refine s_zeq hP t106_18 (fun q18 => ?_) (fun q18 => ?_)
    · refine s_iconst (v := 0) hP t106_48 (by decide) ?_
      refine s_invokevirtual (bc' := 0) (bs' := 0) hP t106_49 rfl rfl rfl rfl rfl ?_
      refine sp99 (x := false) ?_
      refine s_if_le hP t106_52 (fun q52 => ?_) (fun q52 => ?_)
      · exact absurd q52 (show ¬ (1 : Int32) ≤ 0 by decide)
      · refine s_iconst (v := 0) hP t106_55 (by decide) ?_
        refine s_ireturn hP t106_56 rfl rfl ?_
        exact kout (by rw [q18]; simp)
    · refine s_iload_n hP t106_21 rfl ?_
      refine s_bipush (v := (-15)) hP t106_22 (by decide) ?_
      refine s_bipush (v := 15) hP t106_24 (by decide) ?_
      refine s_invokestatic (bc' := 0) (bs' := 0) hP t106_26 rfl rfl rfl rfl rfl ?_
      refine sp97 ?_
      refine s_zeq hP t106_29 (fun q29 => ?_) (fun q29 => ?_)
      · refine s_iconst (v := 0) hP t106_48 (by decide) ?_
        refine s_invokevirtual (bc' := 0) (bs' := 0) hP t106_49 rfl rfl rfl rfl rfl ?_
        refine sp99 (x := false) ?_
        refine s_if_le hP t106_52 (fun q52 => ?_) (fun q52 => ?_)
        · exact absurd q52 (show ¬ (1 : Int32) ≤ 0 by decide)
        · refine s_iconst (v := 0) hP t106_55 (by decide) ?_
          refine s_ireturn hP t106_56 rfl rfl ?_
          exact kout (by rw [q18, q29]; simp)
      · refine s_iload hP t106_32 rfl ?_
        refine s_bipush (v := (-15)) hP t106_34 (by decide) ?_
        refine s_bipush (v := 15) hP t106_36 (by decide) ?_
        refine s_invokestatic (bc' := 0) (bs' := 0) hP t106_38 rfl rfl rfl rfl rfl ?_
        refine sp97 ?_
        refine s_zeq hP t106_41 (fun q41 => ?_) (fun q41 => ?_)
        · refine s_iconst (v := 0) hP t106_48 (by decide) ?_
          refine s_invokevirtual (bc' := 0) (bs' := 0) hP t106_49 rfl rfl rfl rfl rfl ?_
          refine sp99 (x := false) ?_
          refine s_if_le hP t106_52 (fun q52 => ?_) (fun q52 => ?_)
          · exact absurd q52 (show ¬ (1 : Int32) ≤ 0 by decide)
          · refine s_iconst (v := 0) hP t106_55 (by decide) ?_
            refine s_ireturn hP t106_56 rfl rfl ?_
            exact kout (by rw [q18, q29, q41]; simp)
        · refine s_iconst (v := 1) hP t106_44 (by decide) ?_
          refine s_goto hP t106_45 ?_
          refine s_invokevirtual (bc' := 0) (bs' := 0) hP t106_49 rfl rfl rfl rfl rfl ?_
          refine sp99 (x := true) ?_
          refine s_if_le hP t106_52 (fun q52 => ?_) (fun q52 => ?_)
          · refine s_aload_n hP t106_57 rfl ?_
            refine s_getfield hP t106_58 rfl rfl ?_
            refine s_iconst (v := 3) hP t106_61 (by decide) ?_
            refine s_iload_n hP t106_62 rfl ?_
            refine s_imul hP t106_63 ?_
            rw [show (3 : Int32) * nI A = nI (3 * A) by rw [show (3 : Int32) = nI 3 from rfl, pk_mul]]
            refine s_iaload hP t106_64 rfl (vp_in_nI (by omega) (by decide)) ?_
            rw [nI_clamp (by omega)]
            refine s_istore_5 hP t106_65 (by exact rfl) ?_
            refine s_aload_n hP t106_67 rfl ?_
            refine s_getfield hP t106_68 rfl rfl ?_
            refine s_iconst (v := 3) hP t106_71 (by decide) ?_
            refine s_iload_n hP t106_72 rfl ?_
            refine s_imul hP t106_73 ?_
            rw [show (3 : Int32) * nI A = nI (3 * A) by rw [show (3 : Int32) = nI 3 from rfl, pk_mul]]
            refine s_iload_n hP t106_74 rfl ?_
            refine s_iastore hP t106_75 rfl (vp_in_nI (by omega) (by decide)) ?_
            rw [nI_clamp (by omega)]
            refine s_aload_n hP t106_76 rfl ?_
            refine s_getfield hP t106_77 rfl rfl ?_
            refine s_iconst (v := 3) hP t106_80 (by decide) ?_
            refine s_iload_n hP t106_81 rfl ?_
            refine s_imul hP t106_82 ?_
            rw [show (3 : Int32) * nI A = nI (3 * A) by rw [show (3 : Int32) = nI 3 from rfl, pk_mul]]
            refine s_iconst (v := 1) hP t106_83 (by decide) ?_
            refine s_iadd hP t106_84 ?_
            rw [nI_1]
            refine s_iload_n hP t106_85 rfl ?_
            refine s_iastore hP t106_86 rfl (vp_in_nI (by omega) (by decide)) ?_
            rw [nI_clamp (by omega)]
            refine s_aload_n hP t106_87 rfl ?_
            refine s_getfield hP t106_88 rfl rfl ?_
            refine s_iconst (v := 3) hP t106_91 (by decide) ?_
            refine s_iload_n hP t106_92 rfl ?_
            refine s_imul hP t106_93 ?_
            rw [show (3 : Int32) * nI A = nI (3 * A) by rw [show (3 : Int32) = nI 3 from rfl, pk_mul]]
            refine s_iconst (v := 2) hP t106_94 (by decide) ?_
            refine s_iadd hP t106_95 ?_
            rw [show nI (3 * A) + 2 = nI (3 * A + 2) from nI_add (3 * A) 2]
            refine s_iload hP t106_96 rfl ?_
            refine s_iastore hP t106_98 rfl (vp_in_nI (by omega) (by decide)) ?_
            rw [nI_clamp (by omega)]
            refine s_aload_n hP t106_99 rfl ?_
            refine s_invokevirtual (bc' := 0) (bs' := 0) hP t106_100 rfl rfl rfl rfl rfl ?_
            refine sp100 (ma := am_u2 ma 10 (mp_3 (ma 10) (3 * A) y z w)) (ms := am_u1 ms 15 0) (fun g u v hg hu hv => ?_)
            refine s_iload hP t106_103 rfl ?_
            refine s_ireturn hP t106_105 rfl rfl ?_
            exact kin A (by omega) rfl q18 q29 q41 g u v hg hu hv
          · exact absurd (show (0 : Int32) ≤ 0 by decide) q52
set_option maxHeartbeats 2000000 in
theorem sp110 {d : Nat} {K : am_K} {ha : Nat → Nat → Int32} {hz : Int32} {a1 : Nat → Nat → Int32} {s1 : Nat → Int32} {t1 : UInt32} {a2 : Nat → Nat → Int32} {s2 : Nat → Int32} {t2 : UInt32} {al : Int32} {ma : Nat → Nat → Int32} {ms : Nat → Int32} {mt : UInt32} {ol : Nat → Int64} {od : Nat → UInt64} {n9 : Nat} (hn : ms 16 = nI n9) (hn9 : n9 ≤ 64) (kin : ∀ n, n9 = n + 1 → ∀ g u v : Nat → Int32, (∀ j, j < 1152 → g j = 0) → (∀ j, j < 12 → u j = 0) → (∀ j, j < 8 → v j = 0) → K (some (.int (nI n))) (am_W ha hz a1 s1 t1 a2 s2 t2 al (mb_a0 ma g u v) (mb_s0 (am_u1 (am_u1 ms 15 0) 16 (nI n))) FP.fconst0 ol od)) (kout : ms 16 = 0 → K (some (.int 0)) (am_W ha hz a1 s1 t1 a2 s2 t2 al ma (am_u1 ms 15 1) mt ol od)) : am_Run (d + 2) 110 [.ref 39] (am_W ha hz a1 s1 t1 a2 s2 t2 al ma ms mt ol od) K := by
  refine ⟨rfl, fun P hm hP => ?_⟩
  show P 0 [some (.ref 39)] [] _ 0 0
  refine s_aload_n hP t110_0 rfl ?_
  refine s_aload_n hP t110_1 rfl ?_
  refine s_getfield hP t110_2 rfl rfl ?_
  refine s_if_le hP t110_5 (fun q5 => ?_) (fun q5 => ?_)
  · have e5 : ms 16 = 0 := by
      rw [hn] at q5 ⊢
      have := (nI_leI (b := 0) (by omega) (by decide)).mp q5
      rw [show n9 = 0 by omega]; rfl
    refine s_iconst (v := 0) hP t110_12 (by decide) ?_
    refine s_invokevirtual (bc' := 0) (bs' := 0) hP t110_13 rfl rfl rfl rfl rfl ?_
    refine sp99 (x := false) ?_
    refine s_if_le hP t110_16 (fun q16 => ?_) (fun q16 => ?_)
    · exact absurd q16 (show ¬ (1 : Int32) ≤ 0 by decide)
    · refine s_iconst (v := 0) hP t110_19 (by decide) ?_
      refine s_ireturn hP t110_20 rfl rfl ?_
      exact kout e5
  · obtain ⟨n, rfl⟩ : ∃ n, n9 = n + 1 := ⟨n9 - 1, by
      have : 0 < n9 := Nat.lt_of_not_le (fun q => q5 (by rw [hn]; exact (nI_leI (b := 0) (by omega) (by decide)).mpr q))
      omega⟩
    refine s_iconst (v := 1) hP t110_8 (by decide) ?_
    refine s_goto hP t110_9 ?_
    refine s_invokevirtual (bc' := 0) (bs' := 0) hP t110_13 rfl rfl rfl rfl rfl ?_
    refine sp99 (x := true) ?_
    refine s_if_le hP t110_16 (fun q16 => ?_) (fun q16 => ?_)
    · refine s_aload_n hP t110_21 rfl ?_
      refine s_dup hP t110_22 rfl ?_
      refine s_getfield hP t110_23 rfl rfl ?_
      refine s_iconst (v := 1) hP t110_26 (by decide) ?_
      refine s_isub hP t110_27 ?_
      rw [show am_u1 ms 15 (am_b !true) 16 = nI (n + 1) from hn, nI_pred]
      refine s_putfield hP t110_28 rfl rfl rfl rfl ?_
      refine s_aload_n hP t110_31 rfl ?_
      refine s_invokevirtual (bc' := 0) (bs' := 0) hP t110_32 rfl rfl rfl rfl rfl ?_
      refine sp100 (ms := am_u1 (am_u1 ms 15 0) 16 (nI n)) (fun g u v hg hu hv => ?_)
      refine s_aload_n hP t110_35 rfl ?_
      refine s_getfield hP t110_36 rfl rfl ?_
      refine s_ireturn hP t110_39 rfl rfl ?_
      exact kin n rfl g u v hg hu hv
    · exact absurd (show (0 : Int32) ≤ 0 by decide) q16
def mb_app (ma : Nat → Nat → Int32) (n : Nat) (x y z w : Int32) : Nat → Nat → Int32 := am_u2 (am_u2 (am_u2 (am_u2 ma 1 (upd (ma 1) n x)) 5 (upd (ma 5) n y)) 6 (upd (ma 6) n z)) 7 (upd (ma 7) n w)
set_option maxHeartbeats 4000000 in
theorem sp109 {d : Nat} {K : am_K} {ha : Nat → Nat → Int32} {hz : Int32} {a1 : Nat → Nat → Int32} {s1 : Nat → Int32} {t1 : UInt32} {a2 : Nat → Nat → Int32} {s2 : Nat → Int32} {t2 : UInt32} {al : Int32} {ma : Nat → Nat → Int32} {ms : Nat → Int32} {mt : UInt32} {ol : Nat → Int64} {od : Nat → UInt64} {n : Nat} (hn : ms 16 = nI n) (hn9 : n ≤ 64) {x y z w : Int32} (kin : n < 64 → mi_kind x = true → mi_term y = true → mi_term z = true → mi_term w = true → ∀ g u v : Nat → Int32, (∀ j, j < 1152 → g j = 0) → (∀ j, j < 12 → u j = 0) → (∀ j, j < 8 → v j = 0) → K (some (.int (nI n))) (am_W ha hz a1 s1 t1 a2 s2 t2 al (mb_a0 (mb_app ma n x y z w) g u v) (mb_s0 (am_u1 (am_u1 ms 15 0) 16 (nI (n + 1)))) FP.fconst0 ol od)) (k1 : (mi_kind x && (mi_term y && (mi_term z && mi_term w))) = false → K (some (.int 0)) (am_W ha hz a1 s1 t1 a2 s2 t2 al ma (am_u1 ms 15 1) mt ol od)) (k2 : n = 64 → mi_kind x = true → mi_term y = true → mi_term z = true → mi_term w = true → K (some (.int 0)) (am_W ha hz a1 s1 t1 a2 s2 t2 al ma (am_u1 ms 15 2) mt ol od)) : am_Run (d + 3) 109 [.ref 39, .int x, .int y, .int z, .int w] (am_W ha hz a1 s1 t1 a2 s2 t2 al ma ms mt ol od) K := by
  refine ⟨rfl, fun P hm hP => ?_⟩
  show P 0 [some (.ref 39), some (.int x), some (.int y), some (.int z), some (.int w)] [] _ 0 0
  refine s_aload_n hP t109_0 rfl ?_
  refine s_iload_n hP t109_1 rfl ?_
  refine s_invokestatic (bc' := 0) (bs' := 0) hP t109_2 rfl rfl rfl rfl rfl ?_
  refine sp108 ?_
  refine s_zeq hP t109_5 (fun q5 => ?_) (fun q5 => ?_)
  · refine s_iconst (v := 1) hP t109_30 (by decide) ?_
    refine s_goto hP t109_31 ?_
    refine s_putfield hP t109_48 rfl rfl rfl rfl ?_
    refine s_aload_n hP t109_51 rfl ?_
    refine s_getfield hP t109_52 rfl rfl ?_
    refine s_if_le hP t109_55 (fun q55 => ?_) (fun q55 => ?_)
    · exact absurd q55 (show ¬ (1 : Int32) ≤ 0 by decide)
    · refine s_iconst (v := 0) hP t109_58 (by decide) ?_
      refine s_ireturn hP t109_59 rfl rfl ?_
      exact k1 (by rw [q5]; simp)
  · refine s_iload_n hP t109_8 rfl ?_
    refine s_invokestatic (bc' := 0) (bs' := 0) hP t109_9 rfl rfl rfl rfl rfl ?_
    refine sp107 ?_
    refine s_zeq hP t109_12 (fun q12 => ?_) (fun q12 => ?_)
    · refine s_iconst (v := 1) hP t109_30 (by decide) ?_
      refine s_goto hP t109_31 ?_
      refine s_putfield hP t109_48 rfl rfl rfl rfl ?_
      refine s_aload_n hP t109_51 rfl ?_
      refine s_getfield hP t109_52 rfl rfl ?_
      refine s_if_le hP t109_55 (fun q55 => ?_) (fun q55 => ?_)
      · exact absurd q55 (show ¬ (1 : Int32) ≤ 0 by decide)
      · refine s_iconst (v := 0) hP t109_58 (by decide) ?_
        refine s_ireturn hP t109_59 rfl rfl ?_
        exact k1 (by rw [q5, q12]; simp)
    · refine s_iload_n hP t109_15 rfl ?_
      refine s_invokestatic (bc' := 0) (bs' := 0) hP t109_16 rfl rfl rfl rfl rfl ?_
      refine sp107 ?_
      refine s_zeq hP t109_19 (fun q19 => ?_) (fun q19 => ?_)
      · refine s_iconst (v := 1) hP t109_30 (by decide) ?_
        refine s_goto hP t109_31 ?_
        refine s_putfield hP t109_48 rfl rfl rfl rfl ?_
        refine s_aload_n hP t109_51 rfl ?_
        refine s_getfield hP t109_52 rfl rfl ?_
        refine s_if_le hP t109_55 (fun q55 => ?_) (fun q55 => ?_)
        · exact absurd q55 (show ¬ (1 : Int32) ≤ 0 by decide)
        · refine s_iconst (v := 0) hP t109_58 (by decide) ?_
          refine s_ireturn hP t109_59 rfl rfl ?_
          exact k1 (by rw [q5, q12, q19]; simp)
      · refine s_iload hP t109_22 rfl ?_
        refine s_invokestatic (bc' := 0) (bs' := 0) hP t109_24 rfl rfl rfl rfl rfl ?_
        refine sp107 ?_
        refine s_zne hP t109_27 (fun q27 => ?_) (fun q27 => ?_)
        · refine s_aload_n hP t109_34 rfl ?_
          refine s_getfield hP t109_35 rfl rfl ?_
          refine s_bipush (v := 64) hP t109_38 (by decide) ?_
          refine s_icmp_ne hP t109_40 (fun q40 => ?_) (fun q40 => ?_)
          · have e40 : n < 64 := by
              rcases Nat.lt_or_ge n 64 with h9 | h9
              · exact h9
              · exact absurd (by rw [hn, show n = 64 by omega]; rfl) q40
            refine s_iconst (v := 0) hP t109_47 (by decide) ?_
            refine s_putfield hP t109_48 rfl rfl rfl rfl ?_
            refine s_aload_n hP t109_51 rfl ?_
            refine s_getfield hP t109_52 rfl rfl ?_
            refine s_if_le hP t109_55 (fun q55 => ?_) (fun q55 => ?_)
            · refine s_aload_n hP t109_60 rfl ?_
              refine s_getfield hP t109_61 rfl rfl ?_
              refine s_aload_n hP t109_64 rfl ?_
              refine s_getfield hP t109_65 rfl rfl ?_
              refine s_iload_n hP t109_68 rfl ?_
              refine s_castore hP t109_69 rfl (by rw [hn]; exact vp_in_nI (by omega) (by decide)) ?_
              rw [hn, nI_clamp (by omega), mb_kd q5]
              refine s_aload_n hP t109_70 rfl ?_
              refine s_getfield hP t109_71 rfl rfl ?_
              refine s_aload_n hP t109_74 rfl ?_
              refine s_getfield hP t109_75 rfl rfl ?_
              refine s_iload_n hP t109_78 rfl ?_
              refine s_iastore hP t109_79 rfl (vp_in_nI (by omega) (by decide)) ?_
              rw [nI_clamp (by omega)]
              refine s_aload_n hP t109_80 rfl ?_
              refine s_getfield hP t109_81 rfl rfl ?_
              refine s_aload_n hP t109_84 rfl ?_
              refine s_getfield hP t109_85 rfl rfl ?_
              refine s_iload_n hP t109_88 rfl ?_
              refine s_iastore hP t109_89 rfl (vp_in_nI (by omega) (by decide)) ?_
              rw [nI_clamp (by omega)]
              refine s_aload_n hP t109_90 rfl ?_
              refine s_getfield hP t109_91 rfl rfl ?_
              refine s_aload_n hP t109_94 rfl ?_
              refine s_getfield hP t109_95 rfl rfl ?_
              refine s_iload hP t109_98 rfl ?_
              refine s_iastore hP t109_100 rfl (vp_in_nI (by omega) (by decide)) ?_
              rw [nI_clamp (by omega)]
              refine s_aload_n hP t109_101 rfl ?_
              refine s_dup hP t109_102 rfl ?_
              refine s_getfield hP t109_103 rfl rfl ?_
              refine s_iconst (v := 1) hP t109_106 (by decide) ?_
              refine s_iadd hP t109_107 ?_
              rw [nI_1]
              refine s_putfield hP t109_108 rfl rfl rfl rfl ?_
              refine s_aload_n hP t109_111 rfl ?_
              refine s_invokevirtual (bc' := 0) (bs' := 0) hP t109_112 rfl rfl rfl rfl rfl ?_
              refine sp100 (ma := (mb_app ma n x y z w)) (ms := am_u1 (am_u1 ms 15 0) 16 (nI (n + 1))) (fun g u v hg hu hv => ?_)
              refine s_aload_n hP t109_115 rfl ?_
              refine s_getfield hP t109_116 rfl rfl ?_
              refine s_iconst (v := 1) hP t109_119 (by decide) ?_
              refine s_isub hP t109_120 ?_
              rw [show mb_s0 (am_u1 (am_u1 ms 15 0) 16 (nI (n + 1))) 16 = nI (n + 1) from rfl, nI_pred]
              refine s_ireturn hP t109_121 rfl rfl ?_
              exact kin e40 q5 q12 q19 q27 g u v hg hu hv
            · exact absurd (show (0 : Int32) ≤ 0 by decide) q55
          · have e40 : n = 64 := (nI_inj (b := 64) (by omega) (by decide)).mp (by rw [← hn]; exact q40)
            refine s_iconst (v := 2) hP t109_43 (by decide) ?_
            refine s_goto hP t109_44 ?_
            refine s_putfield hP t109_48 rfl rfl rfl rfl ?_
            refine s_aload_n hP t109_51 rfl ?_
            refine s_getfield hP t109_52 rfl rfl ?_
            refine s_if_le hP t109_55 (fun q55 => ?_) (fun q55 => ?_)
            · exact absurd q55 (show ¬ (2 : Int32) ≤ 0 by decide)
            · refine s_iconst (v := 0) hP t109_58 (by decide) ?_
              refine s_ireturn hP t109_59 rfl rfl ?_
              exact k2 e40 q5 q12 q19 q27
        · refine s_iconst (v := 1) hP t109_30 (by decide) ?_
          refine s_goto hP t109_31 ?_
          refine s_putfield hP t109_48 rfl rfl rfl rfl ?_
          refine s_aload_n hP t109_51 rfl ?_
          refine s_getfield hP t109_52 rfl rfl ?_
          refine s_if_le hP t109_55 (fun q55 => ?_) (fun q55 => ?_)
          · exact absurd q55 (show ¬ (1 : Int32) ≤ 0 by decide)
          · refine s_iconst (v := 0) hP t109_58 (by decide) ?_
            refine s_ireturn hP t109_59 rfl rfl ?_
            exact k1 (by rw [q5, q12, q19, q27]; rfl)
def mb_put (ma : Nat → Nat → Int32) (c : Nat) (z u w : Int32) : Nat → Nat → Int32 := am_u2 (am_u2 (am_u2 ma 0 (upd (ma 0) c z)) 2 (upd (ma 2) c u)) 3 (upd (ma 3) c w)
set_option maxHeartbeats 8000000 in
theorem sp102 {d : Nat} {K : am_K} {ha : Nat → Nat → Int32} {hz : Int32} {a1 : Nat → Nat → Int32} {s1 : Nat → Int32} {t1 : UInt32} {a2 : Nat → Nat → Int32} {s2 : Nat → Int32} {t2 : UInt32} {al : Int32} {ma : Nat → Nat → Int32} {ms : Nat → Int32} {mt : UInt32} {ol : Nat → Int64} {od : Nat → UInt64} {x y z r l : Int32} (kin : ∀ A C, A < 3 → C < 4 → x = nI A → y = nI C → mi_shape z = true → mi_iw r 0 3 = true → mi_iw l 1 999 = true → (decide (x = 2) || decide (z = if x = 0 then 101 else 98)) = true → ∀ g u v : Nat → Int32, (∀ j, j < 1152 → g j = 0) → (∀ j, j < 12 → u j = 0) → (∀ j, j < 8 → v j = 0) → K (some (.int (nI (mr_cnt 4 (fun j => !decide ((mb_put ma (4 * A + C) z r l 0) (4 * A + j) = 45)))))) (am_W ha hz a1 s1 t1 a2 s2 t2 al (mb_a0 (mb_put ma (4 * A + C) z r l) g u v) (mb_s0 (am_u1 ms 15 0)) FP.fconst0 ol od)) (k1 : mi_slot x y = false → K (some (.int 0)) (am_W ha hz a1 s1 t1 a2 s2 t2 al ma (am_u1 ms 15 1) mt ol od)) (k2 : (mi_shape z && (mi_iw r 0 3 && mi_iw l 1 999)) = false → K (some (.int 0)) (am_W ha hz a1 s1 t1 a2 s2 t2 al ma (am_u1 ms 15 2) mt ol od)) (k3 : mi_shape z = true → mi_iw r 0 3 = true → mi_iw l 1 999 = true → (decide (x = 2) || decide (z = if x = 0 then 101 else 98)) = false → K (some (.int 0)) (am_W ha hz a1 s1 t1 a2 s2 t2 al ma (am_u1 ms 15 3) mt ol od)) : am_Run (d + 3) 102 [.ref 39, .int x, .int y, .int z, .int r, .int l] (am_W ha hz a1 s1 t1 a2 s2 t2 al ma ms mt ol od) K := by
  refine ⟨rfl, fun P hm hP => ?_⟩
  show P 0 [some (.ref 39), some (.int x), some (.int y), some (.int z), some (.int r), some (.int l), none, none, none, none, none] [] _ 0 0
  have at155 : ∀ A C, A < 3 → C < 4 → x = nI A → y = nI C → mi_shape z = true → mi_iw r 0 3 = true → mi_iw l 1 999 = true → (decide (x = 2) || decide (z = if x = 0 then 101 else 98)) = true → ∀ g u v : Nat → Int32, (∀ j, j < 1152 → g j = 0) → (∀ j, j < 12 → u j = 0) → (∀ j, j < 8 → v j = 0) → P 155 [some (.ref 39), some (.int x), some (.int y), some (.int z), some (.int r), some (.int l), some (.int (am_b (mi_shape z))), some (.int (am_b (decide (x = 2) || decide (z = if x = 0 then 101 else 98)))), some (.int (nI (4 * A + C))), none, none] [] (am_W ha hz a1 s1 t1 a2 s2 t2 al (mb_a0 (mb_put ma (4 * A + C) z r l) g u v) (mb_s0 (am_u1 ms 15 0)) FP.fconst0 ol od) 0 0 := by
    intro A C hA hC hx hy hsh hr hl htk g u v hg hu hv
    subst hx
    subst hy
    have loop : ∀ (n i : Nat), i ≤ 4 → 4 + 1 ≤ i + n → P 163 [some (.ref 39), some (.int (nI A)), some (.int (nI C)), some (.int z), some (.int r), some (.int l), some (.int (am_b (mi_shape z))), some (.int (am_b (decide (nI A = 2) || decide (z = if nI A = 0 then 101 else 98)))), some (.int (nI (4 * A + C))), some (.int (nI (mr_cnt i (fun j => !decide ((mb_put ma (4 * A + C) z r l 0) (4 * A + j) = 45))))), some (.int (nI (4 * A + i)))] [] (am_W ha hz a1 s1 t1 a2 s2 t2 al (mb_a0 (mb_put ma (4 * A + C) z r l) g u v) (mb_s0 (am_u1 ms 15 0)) FP.fconst0 ol od) 0 0 := by
      intro n
      induction n with
      | zero => intro i h3 h4; omega
      | succ n ih =>
        intro i h3 h4
        refine s_iload hP t102_163 rfl ?_
        refine s_iconst (v := 4) hP t102_165 (by decide) ?_
        refine s_iload_n hP t102_166 rfl ?_
        refine s_imul hP t102_167 ?_
        rw [show (4 : Int32) * nI A = nI (4 * A) by rw [show (4 : Int32) = nI 4 from rfl, pk_mul]]
        refine s_iconst (v := 4) hP t102_168 (by decide) ?_
        refine s_iadd hP t102_169 ?_
        rw [show nI (4 * A) + 4 = nI (4 * A + 4) from nI_add (4 * A) 4]
        refine s_icmp_ge hP t102_170 (fun q170 => ?_) (fun q170 => ?_)
        · have e9 : 4 ≤ i := by
            have := (nI_leI (by omega) (by omega)).mp q170
            omega
          refine s_iload hP t102_201 rfl ?_
          refine s_ireturn hP t102_203 rfl rfl ?_
          obtain rfl : i = 4 := by omega
          exact kin A C hA hC rfl rfl hsh hr hl htk g u v hg hu hv
        · have e9 : i < 4 := Nat.lt_of_not_le (fun q => q170 ((nI_leI (by omega) (by omega)).mpr (by omega)))
          refine s_iload hP t102_173 rfl ?_
          refine s_aload_n hP t102_175 rfl ?_
          refine s_getfield hP t102_176 rfl rfl ?_
          refine s_iload hP t102_179 rfl ?_
          refine s_caload hP t102_181 rfl (vp_in_nI (by omega) (by decide)) ?_
          rw [nI_clamp (by omega)]
          refine s_bipush (v := 45) hP t102_182 (by decide) ?_
          refine s_icmp_ne hP t102_184 (fun q184 => ?_) (fun q184 => ?_)
          · have e21 : (!decide ((mb_put ma (4 * A + C) z r l 0) (4 * A + i) = 45)) = true := by
              have q9 : ¬ (mb_put ma (4 * A + C) z r l 0) (4 * A + i) = 45 := q184
              rw [decide_eq_false q9]; rfl
            refine s_iconst (v := 1) hP t102_191 (by decide) ?_
            refine s_iadd hP t102_192 ?_
            rw [show nI (mr_cnt i (fun j => !decide ((mb_put ma (4 * A + C) z r l 0) (4 * A + j) = 45))) + 1 = nI (mr_cnt (i + 1) (fun j => !decide ((mb_put ma (4 * A + C) z r l 0) (4 * A + j) = 45))) by rw [nI_1, mr_cnt, e21]; rfl]
            refine s_istore_9 hP t102_193 (by exact rfl) ?_
            refine s_iinc_10 (v := 1) hP t102_195 (by decide) (by exact rfl) ?_
            refine s_goto hP t102_198 ?_
            rw [nI_1]
            exact ih (i + 1) (by omega) (by omega)
          · have e21 : (!decide ((mb_put ma (4 * A + C) z r l 0) (4 * A + i) = 45)) = false := by
              have q9 : (mb_put ma (4 * A + C) z r l 0) (4 * A + i) = 45 := q184
              rw [decide_eq_true q9]; rfl
            refine s_iconst (v := 0) hP t102_187 (by decide) ?_
            refine s_goto hP t102_188 ?_
            refine s_iadd hP t102_192 ?_
            rw [show nI (mr_cnt i (fun j => !decide ((mb_put ma (4 * A + C) z r l 0) (4 * A + j) = 45))) + 0 = nI (mr_cnt (i + 1) (fun j => !decide ((mb_put ma (4 * A + C) z r l 0) (4 * A + j) = 45))) by rw [show ∀ n : Nat, nI n + 0 = nI n from fun n => nI_add n 0, mr_cnt, e21]; rfl]
            refine s_istore_9 hP t102_193 (by exact rfl) ?_
            refine s_iinc_10 (v := 1) hP t102_195 (by decide) (by exact rfl) ?_
            refine s_goto hP t102_198 ?_
            rw [nI_1]
            exact ih (i + 1) (by omega) (by omega)
    refine s_iconst (v := 0) hP t102_155 (by decide) ?_
    refine s_istore_9 hP t102_156 (by exact rfl) ?_
    refine s_iconst (v := 4) hP t102_158 (by decide) ?_
    refine s_iload_n hP t102_159 rfl ?_
    refine s_imul hP t102_160 ?_
    rw [show (4 : Int32) * nI A = nI (4 * A) by rw [show (4 : Int32) = nI 4 from rfl, pk_mul]]
    refine s_istore_10 hP t102_161 (by exact rfl) ?_
    exact loop 5 0 (by omega) (by omega)
  have at52 : P 52 [some (.ref 39), some (.int x), some (.int y), some (.int z), some (.int r), some (.int l), some (.int (am_b (mi_shape z))), some (.int (am_b (decide (x = 2) || decide (z = if x = 0 then 101 else 98)))), none, none, none] [] (am_W ha hz a1 s1 t1 a2 s2 t2 al ma ms mt ol od) 0 0 := by
    refine s_aload_n hP t102_52 rfl ?_
    refine s_iload_n hP t102_53 rfl ?_
    refine s_iload_n hP t102_54 rfl ?_
    refine s_invokestatic (bc' := 0) (bs' := 0) hP t102_55 rfl rfl rfl rfl rfl ?_
    refine sp101 ?_
    refine s_zne hP t102_58 (fun q58 => ?_) (fun q58 => ?_)
    · obtain ⟨A, C, hA, hC, rfl, rfl⟩ := mi_slot_nI q58
      refine s_iload hP t102_65 rfl ?_
      refine s_zeq hP t102_67 (fun q67 => ?_) (fun q67 => ?_)
      · refine s_iconst (v := 2) hP t102_92 (by decide) ?_
        refine s_goto hP t102_93 ?_
        refine s_putfield hP t102_106 rfl rfl rfl rfl ?_
        refine s_aload_n hP t102_109 rfl ?_
        refine s_getfield hP t102_110 rfl rfl ?_
        refine s_if_le hP t102_113 (fun q113 => ?_) (fun q113 => ?_)
        · exact absurd q113 (show ¬ (2 : Int32) ≤ 0 by decide)
        · refine s_iconst (v := 0) hP t102_116 (by decide) ?_
          refine s_ireturn hP t102_117 rfl rfl ?_
          exact k2 (by rw [q67]; simp)
      · refine s_iload hP t102_70 rfl ?_
        refine s_iconst (v := 0) hP t102_72 (by decide) ?_
        refine s_iconst (v := 3) hP t102_73 (by decide) ?_
        refine s_invokestatic (bc' := 0) (bs' := 0) hP t102_74 rfl rfl rfl rfl rfl ?_
        refine sp97 ?_
        refine s_zeq hP t102_77 (fun q77 => ?_) (fun q77 => ?_)
        · refine s_iconst (v := 2) hP t102_92 (by decide) ?_
          refine s_goto hP t102_93 ?_
          refine s_putfield hP t102_106 rfl rfl rfl rfl ?_
          refine s_aload_n hP t102_109 rfl ?_
          refine s_getfield hP t102_110 rfl rfl ?_
          refine s_if_le hP t102_113 (fun q113 => ?_) (fun q113 => ?_)
          · exact absurd q113 (show ¬ (2 : Int32) ≤ 0 by decide)
          · refine s_iconst (v := 0) hP t102_116 (by decide) ?_
            refine s_ireturn hP t102_117 rfl rfl ?_
            exact k2 (by rw [q77]; simp)
        · refine s_iload hP t102_80 rfl ?_
          refine s_iconst (v := 1) hP t102_82 (by decide) ?_
          refine s_sipush (v := 999) hP t102_83 (by decide) ?_
          refine s_invokestatic (bc' := 0) (bs' := 0) hP t102_86 rfl rfl rfl rfl rfl ?_
          refine sp97 ?_
          refine s_zne hP t102_89 (fun q89 => ?_) (fun q89 => ?_)
          · refine s_iload hP t102_96 rfl ?_
            refine s_zne hP t102_98 (fun q98 => ?_) (fun q98 => ?_)
            · refine s_iconst (v := 0) hP t102_105 (by decide) ?_
              refine s_putfield hP t102_106 rfl rfl rfl rfl ?_
              refine s_aload_n hP t102_109 rfl ?_
              refine s_getfield hP t102_110 rfl rfl ?_
              refine s_if_le hP t102_113 (fun q113 => ?_) (fun q113 => ?_)
              · refine s_iconst (v := 4) hP t102_118 (by decide) ?_
                refine s_iload_n hP t102_119 rfl ?_
                refine s_imul hP t102_120 ?_
                rw [show (4 : Int32) * nI A = nI (4 * A) by rw [show (4 : Int32) = nI 4 from rfl, pk_mul]]
                refine s_iload_n hP t102_121 rfl ?_
                refine s_iadd hP t102_122 ?_
                rw [nI_add]
                refine s_istore_8 hP t102_123 (by exact rfl) ?_
                refine s_aload_n hP t102_125 rfl ?_
                refine s_getfield hP t102_126 rfl rfl ?_
                refine s_iload hP t102_129 rfl ?_
                refine s_iload_n hP t102_131 rfl ?_
                refine s_castore hP t102_132 rfl (vp_in_nI (by omega) (by decide)) ?_
                rw [nI_clamp (by omega), mb_sh q67]
                refine s_aload_n hP t102_133 rfl ?_
                refine s_getfield hP t102_134 rfl rfl ?_
                refine s_iload hP t102_137 rfl ?_
                refine s_iload hP t102_139 rfl ?_
                refine s_iastore hP t102_141 rfl (vp_in_nI (by omega) (by decide)) ?_
                rw [nI_clamp (by omega)]
                refine s_aload_n hP t102_142 rfl ?_
                refine s_getfield hP t102_143 rfl rfl ?_
                refine s_iload hP t102_146 rfl ?_
                refine s_iload hP t102_148 rfl ?_
                refine s_iastore hP t102_150 rfl (vp_in_nI (by omega) (by decide)) ?_
                rw [nI_clamp (by omega)]
                refine s_aload_n hP t102_151 rfl ?_
                refine s_invokevirtual (bc' := 0) (bs' := 0) hP t102_152 rfl rfl rfl rfl rfl ?_
                refine sp100 (ma := mb_put ma (4 * A + C) z r l) (ms := am_u1 ms 15 0) (fun g u v hg hu hv => ?_)
                exact at155 A C hA hC rfl rfl q67 q77 q89 q98 g u v hg hu hv
              · exact absurd (show (0 : Int32) ≤ 0 by decide) q113
            · refine s_iconst (v := 3) hP t102_101 (by decide) ?_
              refine s_goto hP t102_102 ?_
              refine s_putfield hP t102_106 rfl rfl rfl rfl ?_
              refine s_aload_n hP t102_109 rfl ?_
              refine s_getfield hP t102_110 rfl rfl ?_
              refine s_if_le hP t102_113 (fun q113 => ?_) (fun q113 => ?_)
              · exact absurd q113 (show ¬ (3 : Int32) ≤ 0 by decide)
              · refine s_iconst (v := 0) hP t102_116 (by decide) ?_
                refine s_ireturn hP t102_117 rfl rfl ?_
                exact k3 q67 q77 q89 q98
          · refine s_iconst (v := 2) hP t102_92 (by decide) ?_
            refine s_goto hP t102_93 ?_
            refine s_putfield hP t102_106 rfl rfl rfl rfl ?_
            refine s_aload_n hP t102_109 rfl ?_
            refine s_getfield hP t102_110 rfl rfl ?_
            refine s_if_le hP t102_113 (fun q113 => ?_) (fun q113 => ?_)
            · exact absurd q113 (show ¬ (2 : Int32) ≤ 0 by decide)
            · refine s_iconst (v := 0) hP t102_116 (by decide) ?_
              refine s_ireturn hP t102_117 rfl rfl ?_
              exact k2 (by rw [q89]; simp)
    · refine s_iconst (v := 1) hP t102_61 (by decide) ?_
      refine s_goto hP t102_62 ?_
      refine s_putfield hP t102_106 rfl rfl rfl rfl ?_
      refine s_aload_n hP t102_109 rfl ?_
      refine s_getfield hP t102_110 rfl rfl ?_
      refine s_if_le hP t102_113 (fun q113 => ?_) (fun q113 => ?_)
      · exact absurd q113 (show ¬ (1 : Int32) ≤ 0 by decide)
      · refine s_iconst (v := 0) hP t102_116 (by decide) ?_
        refine s_ireturn hP t102_117 rfl rfl ?_
        exact k1 q58
  have at25 : P 25 [some (.ref 39), some (.int x), some (.int y), some (.int z), some (.int r), some (.int l), some (.int (am_b (mi_shape z))), none, none, none, none] [] (am_W ha hz a1 s1 t1 a2 s2 t2 al ma ms mt ol od) 0 0 := by
    refine s_iload_n hP t102_25 rfl ?_
    refine s_iconst (v := 2) hP t102_26 (by decide) ?_
    refine s_icmp_eq hP t102_27 (fun q27 => ?_) (fun q27 => ?_)
    · refine s_iconst (v := 1) hP t102_45 (by decide) ?_
      refine s_goto hP t102_46 ?_
      refine s_istore_7 hP t102_50 (by exact rfl) ?_
      rw [show (1 : Int32) = am_b (decide (x = 2) || decide (z = if x = 0 then 101 else 98)) by rw [decide_eq_true q27]; rfl]
      exact at52
    · refine s_iload_n hP t102_30 rfl ?_
      refine s_iload_n hP t102_31 rfl ?_
      refine s_if_ne hP t102_32 (fun q32 => ?_) (fun q32 => ?_)
      · refine s_bipush (v := 98) hP t102_40 (by decide) ?_
        refine s_icmp_ne hP t102_42 (fun q42 => ?_) (fun q42 => ?_)
        · refine s_iconst (v := 0) hP t102_49 (by decide) ?_
          refine s_istore_7 hP t102_50 (by exact rfl) ?_
          rw [show (0 : Int32) = am_b (decide (x = 2) || decide (z = if x = 0 then 101 else 98)) by rw [decide_eq_false q27, if_neg q32, decide_eq_false q42]; rfl]
          exact at52
        · refine s_iconst (v := 1) hP t102_45 (by decide) ?_
          refine s_goto hP t102_46 ?_
          refine s_istore_7 hP t102_50 (by exact rfl) ?_
          rw [show (1 : Int32) = am_b (decide (x = 2) || decide (z = if x = 0 then 101 else 98)) by rw [if_neg q32, decide_eq_true q42, Bool.or_true]; rfl]
          exact at52
      · refine s_bipush (v := 101) hP t102_35 (by decide) ?_
        refine s_goto hP t102_37 ?_
        refine s_icmp_ne hP t102_42 (fun q42 => ?_) (fun q42 => ?_)
        · refine s_iconst (v := 0) hP t102_49 (by decide) ?_
          refine s_istore_7 hP t102_50 (by exact rfl) ?_
          rw [show (0 : Int32) = am_b (decide (x = 2) || decide (z = if x = 0 then 101 else 98)) by rw [decide_eq_false q27, if_pos q32, decide_eq_false q42]; rfl]
          exact at52
        · refine s_iconst (v := 1) hP t102_45 (by decide) ?_
          refine s_goto hP t102_46 ?_
          refine s_istore_7 hP t102_50 (by exact rfl) ?_
          rw [show (1 : Int32) = am_b (decide (x = 2) || decide (z = if x = 0 then 101 else 98)) by rw [if_pos q32, decide_eq_true q42, Bool.or_true]; rfl]
          exact at52
  refine s_iload_n hP t102_0 rfl ?_
  refine s_bipush (v := 101) hP t102_1 (by decide) ?_
  refine s_icmp_eq hP t102_3 (fun q3 => ?_) (fun q3 => ?_)
  · refine s_iconst (v := 1) hP t102_18 (by decide) ?_
    refine s_goto hP t102_19 ?_
    refine s_istore_6 hP t102_23 (by exact rfl) ?_
    rw [show (1 : Int32) = am_b (mi_shape z) by rw [mi_shape, decide_eq_true q3]; rfl]
    exact at25
  · refine s_iload_n hP t102_6 rfl ?_
    refine s_bipush (v := 98) hP t102_7 (by decide) ?_
    refine s_icmp_eq hP t102_9 (fun q9 => ?_) (fun q9 => ?_)
    · refine s_iconst (v := 1) hP t102_18 (by decide) ?_
      refine s_goto hP t102_19 ?_
      refine s_istore_6 hP t102_23 (by exact rfl) ?_
      rw [show (1 : Int32) = am_b (mi_shape z) by rw [mi_shape, decide_eq_true q9, Bool.or_true]; rfl]
      exact at25
    · refine s_iload_n hP t102_12 rfl ?_
      refine s_bipush (v := 118) hP t102_13 (by decide) ?_
      refine s_icmp_ne hP t102_15 (fun q15 => ?_) (fun q15 => ?_)
      · refine s_iconst (v := 0) hP t102_22 (by decide) ?_
        refine s_istore_6 hP t102_23 (by exact rfl) ?_
        rw [show (0 : Int32) = am_b (mi_shape z) by rw [mi_shape, decide_eq_false q3, decide_eq_false q9, decide_eq_false q15]; rfl]
        exact at25
      · refine s_iconst (v := 1) hP t102_18 (by decide) ?_
        refine s_goto hP t102_19 ?_
        refine s_istore_6 hP t102_23 (by exact rfl) ?_
        rw [show (1 : Int32) = am_b (mi_shape z) by rw [mi_shape, decide_eq_true q15, Bool.or_true]; rfl]
        exact at25
