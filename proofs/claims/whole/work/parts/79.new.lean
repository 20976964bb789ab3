/-! THE CONSTRUCTORS. (rows by gen/sp34.py) -/
def am_W1 (e0 : am_E) (ha : Nat → Nat → Int32) (hz : Int32) (a1 : Nat → Nat → Int32) (s1 : Nat → Int32) (t1 : UInt32) : am_H := [e0,
  .inr (2, [.ref 2, .ref 6, .ref 8, .ref 9]),
  .inr (5, [.ref 3, .ref 4, .ref 5]),
  .inl (1, 12, .inl (ha 0)),
  .inl (0, 12, .inl (ha 1)),
  .inl (0, 12, .inl (ha 2)),
  .inr (0, [.ref 7]),
  .inl (0, 72, .inl (ha 3)),
  .inl (0, 12, .inl (ha 4)),
  .inr (4, [.ref 10, .ref 11, .ref 12, .ref 13, .ref 14, .int hz]),
  .inl (0, 64, .inl (ha 5)),
  .inl (0, 64, .inl (ha 6)),
  .inl (0, 64, .inl (ha 7)),
  .inl (0, 64, .inl (ha 8)),
  .inl (0, 64, .inl (ha 9)),
  .inr (1, [.ref 1, .ref 16, .ref 18, .ref 19, .ref 20, .ref 21, .ref 22, .ref 26, .int (s1 8), .int (s1 9), .int (s1 10), .float t1, .int (s1 12), .int (s1 13), .int (s1 14), .int (s1 15), .int (s1 16), .int (s1 17), .int (s1 18), .int (s1 19)]),
  .inr (0, [.ref 17]),
  .inl (0, 72, .inl (a1 0)),
  .inl (0, 12, .inl (a1 1)),
  .inl (0, 8, .inl (a1 2)),
  .inl (0, 3, .inl (a1 3)),
  .inl (0, 64, .inl (a1 4)),
  .inr (3, [.ref 23, .ref 24, .ref 25, .int (s1 20)]),
  .inl (0, 306, .inl (a1 5)),
  .inl (0, 306, .inl (a1 6)),
  .inl (0, 3, .inl (a1 7)),
  .inr (6, [.int (s1 21), .int (s1 22), .int (s1 23), .int (s1 24), .int (s1 25)])]
def am_W2 (e0 : am_E) (ha : Nat → Nat → Int32) (hz : Int32) (a1 : Nat → Nat → Int32) (s1 : Nat → Int32) (t1 : UInt32) (a2 : Nat → Nat → Int32) (s2 : Nat → Int32) (t2 : UInt32) : am_H := [e0,
  .inr (2, [.ref 2, .ref 6, .ref 8, .ref 9]),
  .inr (5, [.ref 3, .ref 4, .ref 5]),
  .inl (1, 12, .inl (ha 0)),
  .inl (0, 12, .inl (ha 1)),
  .inl (0, 12, .inl (ha 2)),
  .inr (0, [.ref 7]),
  .inl (0, 72, .inl (ha 3)),
  .inl (0, 12, .inl (ha 4)),
  .inr (4, [.ref 10, .ref 11, .ref 12, .ref 13, .ref 14, .int hz]),
  .inl (0, 64, .inl (ha 5)),
  .inl (0, 64, .inl (ha 6)),
  .inl (0, 64, .inl (ha 7)),
  .inl (0, 64, .inl (ha 8)),
  .inl (0, 64, .inl (ha 9)),
  .inr (1, [.ref 1, .ref 16, .ref 18, .ref 19, .ref 20, .ref 21, .ref 22, .ref 26, .int (s1 8), .int (s1 9), .int (s1 10), .float t1, .int (s1 12), .int (s1 13), .int (s1 14), .int (s1 15), .int (s1 16), .int (s1 17), .int (s1 18), .int (s1 19)]),
  .inr (0, [.ref 17]),
  .inl (0, 72, .inl (a1 0)),
  .inl (0, 12, .inl (a1 1)),
  .inl (0, 8, .inl (a1 2)),
  .inl (0, 3, .inl (a1 3)),
  .inl (0, 64, .inl (a1 4)),
  .inr (3, [.ref 23, .ref 24, .ref 25, .int (s1 20)]),
  .inl (0, 306, .inl (a1 5)),
  .inl (0, 306, .inl (a1 6)),
  .inl (0, 3, .inl (a1 7)),
  .inr (6, [.int (s1 21), .int (s1 22), .int (s1 23), .int (s1 24), .int (s1 25)]),
  .inr (1, [.ref 1, .ref 28, .ref 30, .ref 31, .ref 32, .ref 33, .ref 34, .ref 38, .int (s2 8), .int (s2 9), .int (s2 10), .float t2, .int (s2 12), .int (s2 13), .int (s2 14), .int (s2 15), .int (s2 16), .int (s2 17), .int (s2 18), .int (s2 19)]),
  .inr (0, [.ref 29]),
  .inl (0, 72, .inl (a2 0)),
  .inl (0, 12, .inl (a2 1)),
  .inl (0, 8, .inl (a2 2)),
  .inl (0, 3, .inl (a2 3)),
  .inl (0, 64, .inl (a2 4)),
  .inr (3, [.ref 35, .ref 36, .ref 37, .int (s2 20)]),
  .inl (0, 306, .inl (a2 5)),
  .inl (0, 306, .inl (a2 6)),
  .inl (0, 3, .inl (a2 7)),
  .inr (6, [.int (s2 21), .int (s2 22), .int (s2 23), .int (s2 24), .int (s2 25)])]
def am_W3 (ha : Nat → Nat → Int32) (hz : Int32) (a1 : Nat → Nat → Int32) (s1 : Nat → Int32) (t1 : UInt32) (a2 : Nat → Nat → Int32) (s2 : Nat → Int32) (t2 : UInt32) (al : Int32) (ma : Nat → Nat → Int32) (ms : Nat → Int32) (mt : UInt32) : am_H := [.inr (7, [.ref 1, .ref 15, .ref 27, .int al]),
  .inr (2, [.ref 2, .ref 6, .ref 8, .ref 9]),
  .inr (5, [.ref 3, .ref 4, .ref 5]),
  .inl (1, 12, .inl (ha 0)),
  .inl (0, 12, .inl (ha 1)),
  .inl (0, 12, .inl (ha 2)),
  .inr (0, [.ref 7]),
  .inl (0, 72, .inl (ha 3)),
  .inl (0, 12, .inl (ha 4)),
  .inr (4, [.ref 10, .ref 11, .ref 12, .ref 13, .ref 14, .int hz]),
  .inl (0, 64, .inl (ha 5)),
  .inl (0, 64, .inl (ha 6)),
  .inl (0, 64, .inl (ha 7)),
  .inl (0, 64, .inl (ha 8)),
  .inl (0, 64, .inl (ha 9)),
  .inr (1, [.ref 1, .ref 16, .ref 18, .ref 19, .ref 20, .ref 21, .ref 22, .ref 26, .int (s1 8), .int (s1 9), .int (s1 10), .float t1, .int (s1 12), .int (s1 13), .int (s1 14), .int (s1 15), .int (s1 16), .int (s1 17), .int (s1 18), .int (s1 19)]),
  .inr (0, [.ref 17]),
  .inl (0, 72, .inl (a1 0)),
  .inl (0, 12, .inl (a1 1)),
  .inl (0, 8, .inl (a1 2)),
  .inl (0, 3, .inl (a1 3)),
  .inl (0, 64, .inl (a1 4)),
  .inr (3, [.ref 23, .ref 24, .ref 25, .int (s1 20)]),
  .inl (0, 306, .inl (a1 5)),
  .inl (0, 306, .inl (a1 6)),
  .inl (0, 3, .inl (a1 7)),
  .inr (6, [.int (s1 21), .int (s1 22), .int (s1 23), .int (s1 24), .int (s1 25)]),
  .inr (1, [.ref 1, .ref 28, .ref 30, .ref 31, .ref 32, .ref 33, .ref 34, .ref 38, .int (s2 8), .int (s2 9), .int (s2 10), .float t2, .int (s2 12), .int (s2 13), .int (s2 14), .int (s2 15), .int (s2 16), .int (s2 17), .int (s2 18), .int (s2 19)]),
  .inr (0, [.ref 29]),
  .inl (0, 72, .inl (a2 0)),
  .inl (0, 12, .inl (a2 1)),
  .inl (0, 8, .inl (a2 2)),
  .inl (0, 3, .inl (a2 3)),
  .inl (0, 64, .inl (a2 4)),
  .inr (3, [.ref 35, .ref 36, .ref 37, .int (s2 20)]),
  .inl (0, 306, .inl (a2 5)),
  .inl (0, 306, .inl (a2 6)),
  .inl (0, 3, .inl (a2 7)),
  .inr (6, [.int (s2 21), .int (s2 22), .int (s2 23), .int (s2 24), .int (s2 25)]),
  .inr (8, [.ref 40, .ref 41, .ref 42, .ref 43, .ref 44, .ref 45, .ref 46, .ref 47, .ref 48, .ref 49, .ref 50, .ref 51, .ref 52, .ref 53, .ref 54, .int (ms 15), .int (ms 16), .int (ms 17), .int (ms 18), .int (ms 19), .int (ms 20), .int (ms 21), .int (ms 22), .int (ms 23), .float mt, .int (ms 25), .int (ms 26)]),
  .inl (1, 12, .inl (ma 0)),
  .inl (1, 64, .inl (ma 1)),
  .inl (0, 12, .inl (ma 2)),
  .inl (0, 12, .inl (ma 3)),
  .inl (0, 12, .inl (ma 4)),
  .inl (0, 64, .inl (ma 5)),
  .inl (0, 64, .inl (ma 6)),
  .inl (0, 64, .inl (ma 7)),
  .inl (0, 64, .inl (ma 8)),
  .inl (0, 8, .inl (ma 9)),
  .inl (0, 12, .inl (ma 10)),
  .inl (0, 3, .inl (ma 11)),
  .inl (0, 3, .inl (ma 12)),
  .inl (2, 1152, .inl (ma 13)),
  .inl (2, 1152, .inl (ma 14))]
set_option maxHeartbeats 4000000 in
theorem sp11p_1 {d : Nat} {K : am_K} {e0 : am_E} {ha : Nat → Nat → Int32} {hz : Int32} {a1 : Nat → Nat → Int32} {s1 : Nat → Int32} {t1 : UInt32} (k : ∀ g u v : Nat → Int32, (∀ j, j < 72 → g j = 65535) → (∀ j, j < 12 → u j = 0) → (∀ j, j < 8 → v j = 0) → K none (am_W1 e0 ha hz (mc_a0 a1 g u v) (mc_s0 s1) FP.fconst0)) : am_Run (d + 2) 11 [.ref 15] (am_W1 e0 ha hz a1 s1 t1) K := by
  refine ⟨rfl, fun P hm hP => ?_⟩
  show P 0 [some (.ref 15), none] [] _ 0 0
  refine s_aload_n hP t11_0 rfl ?_
  refine s_getfield hP t11_1 rfl rfl ?_
  refine s_invokevirtual (bc' := 0) (bs' := 0) hP t11_4 rfl rfl rfl rfl rfl ?_
  refine sp1 rfl rfl rfl (by decide) (fun g hg => ?_)
  have after2 : ∀ (u v : Nat → Int32), (∀ j, j < 12 → u j = 0) → (∀ j, j < 8 → v j = 0) → P 49 [some (.ref 15), some (.int (nI 8))] [] (am_W1 e0 ha hz (am_u2 (am_u2 (am_u2 a1 0 g) 1 u) 2 v) s1 t1) 0 0 := by
    intro u v hu hv
    refine s_aload_n hP t11_49 rfl ?_
    refine s_getfield hP t11_50 rfl rfl ?_
    refine s_iconst (v := 0) hP t11_53 (by decide) ?_
    refine s_iconst (v := 0) hP t11_54 (by decide) ?_
    refine s_iastore hP t11_55 rfl (vp_in_nI (n := 0) (by decide) (by decide)) ?_
    refine s_aload_n hP t11_56 rfl ?_
    refine s_getfield hP t11_57 rfl rfl ?_
    refine s_iconst (v := 1) hP t11_60 (by decide) ?_
    refine s_iconst (v := 0) hP t11_61 (by decide) ?_
    refine s_iastore hP t11_62 rfl (vp_in_nI (n := 1) (by decide) (by decide)) ?_
    refine s_aload_n hP t11_63 rfl ?_
    refine s_getfield hP t11_64 rfl rfl ?_
    refine s_iconst (v := 2) hP t11_67 (by decide) ?_
    refine s_bipush (v := 9) hP t11_68 (by decide) ?_
    refine s_iastore hP t11_70 rfl (vp_in_nI (n := 2) (by decide) (by decide)) ?_
    refine s_aload_n hP t11_71 rfl ?_
    refine s_iconst (v := 0) hP t11_72 (by decide) ?_
    refine s_putfield hP t11_73 rfl rfl rfl rfl ?_
    refine s_aload_n hP t11_76 rfl ?_
    refine s_iconst (v := 0) hP t11_77 (by decide) ?_
    refine s_putfield hP t11_78 rfl rfl rfl rfl ?_
    refine s_aload_n hP t11_81 rfl ?_
    refine s_iconst (v := (-1)) hP t11_82 (by decide) ?_
    refine s_putfield hP t11_83 rfl rfl rfl rfl ?_
    refine s_aload_n hP t11_86 rfl ?_
    refine s_fconst0 hP t11_87 ?_
    refine s_putfield hP t11_88 rfl rfl rfl rfl ?_
    refine s_aload_n hP t11_91 rfl ?_
    refine s_bipush (v := 10) hP t11_92 (by decide) ?_
    refine s_putfield hP t11_94 rfl rfl rfl rfl ?_
    refine s_aload_n hP t11_97 rfl ?_
    refine s_iconst (v := 0) hP t11_98 (by decide) ?_
    refine s_putfield hP t11_99 rfl rfl rfl rfl ?_
    refine s_aload_n hP t11_102 rfl ?_
    refine s_iconst (v := 0) hP t11_103 (by decide) ?_
    refine s_putfield hP t11_104 rfl rfl rfl rfl ?_
    refine s_aload_n hP t11_107 rfl ?_
    refine s_iconst (v := 0) hP t11_108 (by decide) ?_
    refine s_putfield hP t11_109 rfl rfl rfl rfl ?_
    refine s_aload_n hP t11_112 rfl ?_
    refine s_iconst (v := 0) hP t11_113 (by decide) ?_
    refine s_putfield hP t11_114 rfl rfl rfl rfl ?_
    refine s_return_ hP t11_117 rfl ?_
    exact k g u v hg hu hv
  have loop2 : ∀ (u : Nat → Int32), (∀ j, j < 12 → u j = 0) → ∀ (n i : Nat) (v : Nat → Int32), i ≤ 8 → 9 ≤ i + n → (∀ j, j < i → v j = 0) → P 30 [some (.ref 15), some (.int (nI i))] [] (am_W1 e0 ha hz (am_u2 (am_u2 (am_u2 a1 0 g) 1 u) 2 v) s1 t1) 0 0 := by
    intro u hu n
    induction n with
    | zero => intro i v h3 h4; omega
    | succ n ih =>
      intro i v h3 h4 hi
      refine s_iload_n hP t11_30 rfl ?_
      refine s_bipush (v := 8) hP t11_31 (by decide) ?_
      refine s_icmp_ge hP t11_33 (fun q33 => ?_) (fun q33 => ?_)
      · have e9 : 8 ≤ i := mi_leN (by decide) (by omega) q33
        obtain rfl : i = 8 := by omega
        exact after2 u v hu hi
      · have e9 : i < 8 := mi_nleN (a := 8) (by decide) (by omega) q33
        refine s_aload_n hP t11_36 rfl ?_
        refine s_getfield hP t11_37 rfl rfl ?_
        refine s_iload_n hP t11_40 rfl ?_
        refine s_iconst (v := 0) hP t11_41 (by decide) ?_
        refine s_iastore hP t11_42 rfl (vp_in_nI e9 (by decide)) ?_
        rw [nI_clamp (by omega)]
        refine s_iinc_1 (v := 1) hP t11_43 (by decide) (by exact rfl) ?_
        refine s_goto hP t11_46 ?_
        rw [nI_1]
        exact ih (i + 1) (upd v i 0) (by omega) (by omega) (fun j hj => by
          by_cases hji : j = i
          · rw [hji]; exact pk_us
          · rw [show upd v i 0 j = v j from pk_un hji]; exact hi j (by omega))
  have after1 : ∀ (u : Nat → Int32), (∀ j, j < 12 → u j = 0) → P 28 [some (.ref 15), some (.int (nI 12))] [] (am_W1 e0 ha hz (am_u2 (am_u2 a1 0 g) 1 u) s1 t1) 0 0 := by
    intro u hu
    refine s_iconst (v := 0) hP t11_28 (by decide) ?_
    refine s_istore_n_1 hP t11_29 (by exact rfl) ?_
    exact loop2 u hu 9 0 (a1 2) (by omega) (by omega) (fun j hj => by omega)
  have loop1 : ∀ (n i : Nat) (u : Nat → Int32), i ≤ 12 → 13 ≤ i + n → (∀ j, j < i → u j = 0) → P 9 [some (.ref 15), some (.int (nI i))] [] (am_W1 e0 ha hz (am_u2 (am_u2 a1 0 g) 1 u) s1 t1) 0 0 := by
    intro n
    induction n with
    | zero => intro i u h3 h4; omega
    | succ n ih =>
      intro i u h3 h4 hi
      refine s_iload_n hP t11_9 rfl ?_
      refine s_bipush (v := 12) hP t11_10 (by decide) ?_
      refine s_icmp_ge hP t11_12 (fun q12 => ?_) (fun q12 => ?_)
      · have e9 : 12 ≤ i := mi_leN (by decide) (by omega) q12
        obtain rfl : i = 12 := by omega
        exact after1 u hi
      · have e9 : i < 12 := mi_nleN (a := 12) (by decide) (by omega) q12
        refine s_aload_n hP t11_15 rfl ?_
        refine s_getfield hP t11_16 rfl rfl ?_
        refine s_iload_n hP t11_19 rfl ?_
        refine s_iconst (v := 0) hP t11_20 (by decide) ?_
        refine s_iastore hP t11_21 rfl (vp_in_nI e9 (by decide)) ?_
        rw [nI_clamp (by omega)]
        refine s_iinc_1 (v := 1) hP t11_22 (by decide) (by exact rfl) ?_
        refine s_goto hP t11_25 ?_
        rw [nI_1]
        exact ih (i + 1) (upd u i 0) (by omega) (by omega) (fun j hj => by
          by_cases hji : j = i
          · rw [hji]; exact pk_us
          · rw [show upd u i 0 j = u j from pk_un hji]; exact hi j (by omega))
  refine s_iconst (v := 0) hP t11_7 (by decide) ?_
  refine s_istore_n_1 hP t11_8 (by exact rfl) ?_
  exact loop1 13 0 (a1 1) (by omega) (by omega) (fun j hj => by omega)
set_option maxHeartbeats 4000000 in
theorem sp11p_2 {d : Nat} {K : am_K} {e0 : am_E} {ha : Nat → Nat → Int32} {hz : Int32} {a1 : Nat → Nat → Int32} {s1 : Nat → Int32} {t1 : UInt32} {a2 : Nat → Nat → Int32} {s2 : Nat → Int32} {t2 : UInt32} (k : ∀ g u v : Nat → Int32, (∀ j, j < 72 → g j = 65535) → (∀ j, j < 12 → u j = 0) → (∀ j, j < 8 → v j = 0) → K none (am_W2 e0 ha hz a1 s1 t1 (mc_a0 a2 g u v) (mc_s0 s2) FP.fconst0)) : am_Run (d + 2) 11 [.ref 27] (am_W2 e0 ha hz a1 s1 t1 a2 s2 t2) K := by
  refine ⟨rfl, fun P hm hP => ?_⟩
  show P 0 [some (.ref 27), none] [] _ 0 0
  refine s_aload_n hP t11_0 rfl ?_
  refine s_getfield hP t11_1 rfl rfl ?_
  refine s_invokevirtual (bc' := 0) (bs' := 0) hP t11_4 rfl rfl rfl rfl rfl ?_
  refine sp1 rfl rfl rfl (by decide) (fun g hg => ?_)
  have after2 : ∀ (u v : Nat → Int32), (∀ j, j < 12 → u j = 0) → (∀ j, j < 8 → v j = 0) → P 49 [some (.ref 27), some (.int (nI 8))] [] (am_W2 e0 ha hz a1 s1 t1 (am_u2 (am_u2 (am_u2 a2 0 g) 1 u) 2 v) s2 t2) 0 0 := by
    intro u v hu hv
    refine s_aload_n hP t11_49 rfl ?_
    refine s_getfield hP t11_50 rfl rfl ?_
    refine s_iconst (v := 0) hP t11_53 (by decide) ?_
    refine s_iconst (v := 0) hP t11_54 (by decide) ?_
    refine s_iastore hP t11_55 rfl (vp_in_nI (n := 0) (by decide) (by decide)) ?_
    refine s_aload_n hP t11_56 rfl ?_
    refine s_getfield hP t11_57 rfl rfl ?_
    refine s_iconst (v := 1) hP t11_60 (by decide) ?_
    refine s_iconst (v := 0) hP t11_61 (by decide) ?_
    refine s_iastore hP t11_62 rfl (vp_in_nI (n := 1) (by decide) (by decide)) ?_
    refine s_aload_n hP t11_63 rfl ?_
    refine s_getfield hP t11_64 rfl rfl ?_
    refine s_iconst (v := 2) hP t11_67 (by decide) ?_
    refine s_bipush (v := 9) hP t11_68 (by decide) ?_
    refine s_iastore hP t11_70 rfl (vp_in_nI (n := 2) (by decide) (by decide)) ?_
    refine s_aload_n hP t11_71 rfl ?_
    refine s_iconst (v := 0) hP t11_72 (by decide) ?_
    refine s_putfield hP t11_73 rfl rfl rfl rfl ?_
    refine s_aload_n hP t11_76 rfl ?_
    refine s_iconst (v := 0) hP t11_77 (by decide) ?_
    refine s_putfield hP t11_78 rfl rfl rfl rfl ?_
    refine s_aload_n hP t11_81 rfl ?_
    refine s_iconst (v := (-1)) hP t11_82 (by decide) ?_
    refine s_putfield hP t11_83 rfl rfl rfl rfl ?_
    refine s_aload_n hP t11_86 rfl ?_
    refine s_fconst0 hP t11_87 ?_
    refine s_putfield hP t11_88 rfl rfl rfl rfl ?_
    refine s_aload_n hP t11_91 rfl ?_
    refine s_bipush (v := 10) hP t11_92 (by decide) ?_
    refine s_putfield hP t11_94 rfl rfl rfl rfl ?_
    refine s_aload_n hP t11_97 rfl ?_
    refine s_iconst (v := 0) hP t11_98 (by decide) ?_
    refine s_putfield hP t11_99 rfl rfl rfl rfl ?_
    refine s_aload_n hP t11_102 rfl ?_
    refine s_iconst (v := 0) hP t11_103 (by decide) ?_
    refine s_putfield hP t11_104 rfl rfl rfl rfl ?_
    refine s_aload_n hP t11_107 rfl ?_
    refine s_iconst (v := 0) hP t11_108 (by decide) ?_
    refine s_putfield hP t11_109 rfl rfl rfl rfl ?_
    refine s_aload_n hP t11_112 rfl ?_
    refine s_iconst (v := 0) hP t11_113 (by decide) ?_
    refine s_putfield hP t11_114 rfl rfl rfl rfl ?_
    refine s_return_ hP t11_117 rfl ?_
    exact k g u v hg hu hv
  have loop2 : ∀ (u : Nat → Int32), (∀ j, j < 12 → u j = 0) → ∀ (n i : Nat) (v : Nat → Int32), i ≤ 8 → 9 ≤ i + n → (∀ j, j < i → v j = 0) → P 30 [some (.ref 27), some (.int (nI i))] [] (am_W2 e0 ha hz a1 s1 t1 (am_u2 (am_u2 (am_u2 a2 0 g) 1 u) 2 v) s2 t2) 0 0 := by
    intro u hu n
    induction n with
    | zero => intro i v h3 h4; omega
    | succ n ih =>
      intro i v h3 h4 hi
      refine s_iload_n hP t11_30 rfl ?_
      refine s_bipush (v := 8) hP t11_31 (by decide) ?_
      refine s_icmp_ge hP t11_33 (fun q33 => ?_) (fun q33 => ?_)
      · have e9 : 8 ≤ i := mi_leN (by decide) (by omega) q33
        obtain rfl : i = 8 := by omega
        exact after2 u v hu hi
      · have e9 : i < 8 := mi_nleN (a := 8) (by decide) (by omega) q33
        refine s_aload_n hP t11_36 rfl ?_
        refine s_getfield hP t11_37 rfl rfl ?_
        refine s_iload_n hP t11_40 rfl ?_
        refine s_iconst (v := 0) hP t11_41 (by decide) ?_
        refine s_iastore hP t11_42 rfl (vp_in_nI e9 (by decide)) ?_
        rw [nI_clamp (by omega)]
        refine s_iinc_1 (v := 1) hP t11_43 (by decide) (by exact rfl) ?_
        refine s_goto hP t11_46 ?_
        rw [nI_1]
        exact ih (i + 1) (upd v i 0) (by omega) (by omega) (fun j hj => by
          by_cases hji : j = i
          · rw [hji]; exact pk_us
          · rw [show upd v i 0 j = v j from pk_un hji]; exact hi j (by omega))
  have after1 : ∀ (u : Nat → Int32), (∀ j, j < 12 → u j = 0) → P 28 [some (.ref 27), some (.int (nI 12))] [] (am_W2 e0 ha hz a1 s1 t1 (am_u2 (am_u2 a2 0 g) 1 u) s2 t2) 0 0 := by
    intro u hu
    refine s_iconst (v := 0) hP t11_28 (by decide) ?_
    refine s_istore_n_1 hP t11_29 (by exact rfl) ?_
    exact loop2 u hu 9 0 (a2 2) (by omega) (by omega) (fun j hj => by omega)
  have loop1 : ∀ (n i : Nat) (u : Nat → Int32), i ≤ 12 → 13 ≤ i + n → (∀ j, j < i → u j = 0) → P 9 [some (.ref 27), some (.int (nI i))] [] (am_W2 e0 ha hz a1 s1 t1 (am_u2 (am_u2 a2 0 g) 1 u) s2 t2) 0 0 := by
    intro n
    induction n with
    | zero => intro i u h3 h4; omega
    | succ n ih =>
      intro i u h3 h4 hi
      refine s_iload_n hP t11_9 rfl ?_
      refine s_bipush (v := 12) hP t11_10 (by decide) ?_
      refine s_icmp_ge hP t11_12 (fun q12 => ?_) (fun q12 => ?_)
      · have e9 : 12 ≤ i := mi_leN (by decide) (by omega) q12
        obtain rfl : i = 12 := by omega
        exact after1 u hi
      · have e9 : i < 12 := mi_nleN (a := 12) (by decide) (by omega) q12
        refine s_aload_n hP t11_15 rfl ?_
        refine s_getfield hP t11_16 rfl rfl ?_
        refine s_iload_n hP t11_19 rfl ?_
        refine s_iconst (v := 0) hP t11_20 (by decide) ?_
        refine s_iastore hP t11_21 rfl (vp_in_nI e9 (by decide)) ?_
        rw [nI_clamp (by omega)]
        refine s_iinc_1 (v := 1) hP t11_22 (by decide) (by exact rfl) ?_
        refine s_goto hP t11_25 ?_
        rw [nI_1]
        exact ih (i + 1) (upd u i 0) (by omega) (by omega) (fun j hj => by
          by_cases hji : j = i
          · rw [hji]; exact pk_us
          · rw [show upd u i 0 j = u j from pk_un hji]; exact hi j (by omega))
  refine s_iconst (v := 0) hP t11_7 (by decide) ?_
  refine s_istore_n_1 hP t11_8 (by exact rfl) ?_
  exact loop1 13 0 (a2 1) (by omega) (by omega) (fun j hj => by omega)
set_option maxHeartbeats 4000000 in
theorem sp100p {d : Nat} {K : am_K} {ha : Nat → Nat → Int32} {hz : Int32} {a1 : Nat → Nat → Int32} {s1 : Nat → Int32} {t1 : UInt32} {a2 : Nat → Nat → Int32} {s2 : Nat → Int32} {t2 : UInt32} {al : Int32} {ma : Nat → Nat → Int32} {ms : Nat → Int32} {mt : UInt32} (k : ∀ g u v : Nat → Int32, (∀ j, j < 1152 → g j = 0) → (∀ j, j < 12 → u j = 0) → (∀ j, j < 8 → v j = 0) → K none (am_W3 ha hz a1 s1 t1 a2 s2 t2 al (mb_a0 ma g u v) (mb_s0 ms) FP.fconst0)) : am_Run (d + 1) 100 [.ref 39] (am_W3 ha hz a1 s1 t1 a2 s2 t2 al ma ms mt) K := by
  refine ⟨rfl, fun P hm hP => ?_⟩
  show P 0 [some (.ref 39), none] [] _ 0 0
  refine s_iconst (v := 0) hP t100_0 (by decide) ?_
  refine s_istore_n_1 hP t100_1 (by exact rfl) ?_
  have after1 : ∀ g : Nat → Int32, (∀ j, j < 1152 → g j = 0) → P 22 [some (.ref 39), some (.int (nI 1152))] [] (am_W3 ha hz a1 s1 t1 a2 s2 t2 al (am_u2 ma 14 g) ms mt) 0 0 := by
    intro g hg
    have after2 : ∀ u : Nat → Int32, (∀ j, j < 12 → u j = 0) → P 43 [some (.ref 39), some (.int (nI 12))] [] (am_W3 ha hz a1 s1 t1 a2 s2 t2 al (am_u2 (am_u2 ma 14 g) 4 u) ms mt) 0 0 := by
      intro u hu
      have after3 : ∀ v : Nat → Int32, (∀ j, j < 8 → v j = 0) → P 64 [some (.ref 39), some (.int (nI 8))] [] (am_W3 ha hz a1 s1 t1 a2 s2 t2 al (am_u2 (am_u2 (am_u2 ma 14 g) 4 u) 9 v) ms mt) 0 0 := by
        intro v hv
        refine s_aload_n hP t100_64 rfl ?_
        refine s_getfield hP t100_65 rfl rfl ?_
        refine s_iconst (v := 0) hP t100_68 (by decide) ?_
        refine s_iconst (v := 0) hP t100_69 (by decide) ?_
        refine s_iastore hP t100_70 rfl (vp_in_nI (n := 0) (by decide) (by decide)) ?_
        refine s_aload_n hP t100_71 rfl ?_
        refine s_getfield hP t100_72 rfl rfl ?_
        refine s_iconst (v := 1) hP t100_75 (by decide) ?_
        refine s_iconst (v := 0) hP t100_76 (by decide) ?_
        refine s_iastore hP t100_77 rfl (vp_in_nI (n := 1) (by decide) (by decide)) ?_
        refine s_aload_n hP t100_78 rfl ?_
        refine s_getfield hP t100_79 rfl rfl ?_
        refine s_iconst (v := 2) hP t100_82 (by decide) ?_
        refine s_bipush (v := 9) hP t100_83 (by decide) ?_
        refine s_iastore hP t100_85 rfl (vp_in_nI (n := 2) (by decide) (by decide)) ?_
        refine s_aload_n hP t100_86 rfl ?_
        refine s_iconst (v := 0) hP t100_87 (by decide) ?_
        refine s_putfield hP t100_88 rfl rfl rfl rfl ?_
        refine s_aload_n hP t100_91 rfl ?_
        refine s_iconst (v := 0) hP t100_92 (by decide) ?_
        refine s_putfield hP t100_93 rfl rfl rfl rfl ?_
        refine s_aload_n hP t100_96 rfl ?_
        refine s_iconst (v := (-1)) hP t100_97 (by decide) ?_
        refine s_putfield hP t100_98 rfl rfl rfl rfl ?_
        refine s_aload_n hP t100_101 rfl ?_
        refine s_bipush (v := 10) hP t100_102 (by decide) ?_
        refine s_putfield hP t100_104 rfl rfl rfl rfl ?_
        refine s_aload_n hP t100_107 rfl ?_
        refine s_iconst (v := 0) hP t100_108 (by decide) ?_
        refine s_putfield hP t100_109 rfl rfl rfl rfl ?_
        refine s_aload_n hP t100_112 rfl ?_
        refine s_iconst (v := 0) hP t100_113 (by decide) ?_
        refine s_putfield hP t100_114 rfl rfl rfl rfl ?_
        refine s_aload_n hP t100_117 rfl ?_
        refine s_iconst (v := 0) hP t100_118 (by decide) ?_
        refine s_putfield hP t100_119 rfl rfl rfl rfl ?_
        refine s_aload_n hP t100_122 rfl ?_
        refine s_fconst0 hP t100_123 ?_
        refine s_putfield hP t100_124 rfl rfl rfl rfl ?_
        refine s_aload_n hP t100_127 rfl ?_
        refine s_bipush (v := 45) hP t100_128 (by decide) ?_
        refine s_putfield hP t100_130 rfl rfl rfl rfl ?_
        refine s_return_ hP t100_133 rfl ?_
        exact k g u v hg hu hv
      have loop3 : ∀ (n i : Nat) (v : Nat → Int32), i ≤ 8 → 8 + 1 ≤ i + n → (∀ j, j < i → v j = 0) → P 45 [some (.ref 39), some (.int (nI i))] [] (am_W3 ha hz a1 s1 t1 a2 s2 t2 al (am_u2 (am_u2 (am_u2 ma 14 g) 4 u) 9 v) ms mt) 0 0 := by
        intro n
        induction n with
        | zero => intro i v h3 h4; omega
        | succ n ih =>
          intro i v h3 h4 hi
          refine s_iload_n hP t100_45 rfl ?_
          refine s_bipush (v := 8) hP t100_46 (by decide) ?_
          refine s_icmp_ge hP t100_48 (fun q48 => ?_) (fun q48 => ?_)
          · have e9 : 8 ≤ i := mi_leN (by decide) (by omega) q48
            obtain rfl : i = 8 := by omega
            exact after3 v hi
          · have e9 : i < 8 := mi_nleN (a := 8) (by decide) (by omega) q48
            refine s_aload_n hP t100_51 rfl ?_
            refine s_getfield hP t100_52 rfl rfl ?_
            refine s_iload_n hP t100_55 rfl ?_
            refine s_iconst (v := 0) hP t100_56 (by decide) ?_
            refine s_iastore hP t100_57 rfl (vp_in_nI e9 (by decide)) ?_
            rw [nI_clamp (by omega)]
            refine s_iinc_1 (v := 1) hP t100_58 (by decide) (by exact rfl) ?_
            refine s_goto hP t100_61 ?_
            rw [nI_1]
            exact ih (i + 1) (upd v i 0) (by omega) (by omega) (fun j hj => by
              by_cases hji : j = i
              · rw [hji]; exact pk_us
              · rw [show upd v i 0 j = v j from pk_un hji]; exact hi j (by omega))
      refine s_iconst (v := 0) hP t100_43 (by decide) ?_
      refine s_istore_n_1 hP t100_44 (by exact rfl) ?_
      exact loop3 9 0 (ma 9) (by omega) (by omega) (fun j hj => by omega)
    have loop2 : ∀ (n i : Nat) (u : Nat → Int32), i ≤ 12 → 12 + 1 ≤ i + n → (∀ j, j < i → u j = 0) → P 24 [some (.ref 39), some (.int (nI i))] [] (am_W3 ha hz a1 s1 t1 a2 s2 t2 al (am_u2 (am_u2 ma 14 g) 4 u) ms mt) 0 0 := by
      intro n
      induction n with
      | zero => intro i u h3 h4; omega
      | succ n ih =>
        intro i u h3 h4 hi
        refine s_iload_n hP t100_24 rfl ?_
        refine s_bipush (v := 12) hP t100_25 (by decide) ?_
        refine s_icmp_ge hP t100_27 (fun q27 => ?_) (fun q27 => ?_)
        · have e9 : 12 ≤ i := mi_leN (by decide) (by omega) q27
          obtain rfl : i = 12 := by omega
          exact after2 u hi
        · have e9 : i < 12 := mi_nleN (a := 12) (by decide) (by omega) q27
          refine s_aload_n hP t100_30 rfl ?_
          refine s_getfield hP t100_31 rfl rfl ?_
          refine s_iload_n hP t100_34 rfl ?_
          refine s_iconst (v := 0) hP t100_35 (by decide) ?_
          refine s_iastore hP t100_36 rfl (vp_in_nI e9 (by decide)) ?_
          rw [nI_clamp (by omega)]
          refine s_iinc_1 (v := 1) hP t100_37 (by decide) (by exact rfl) ?_
          refine s_goto hP t100_40 ?_
          rw [nI_1]
          exact ih (i + 1) (upd u i 0) (by omega) (by omega) (fun j hj => by
            by_cases hji : j = i
            · rw [hji]; exact pk_us
            · rw [show upd u i 0 j = u j from pk_un hji]; exact hi j (by omega))
    refine s_iconst (v := 0) hP t100_22 (by decide) ?_
    refine s_istore_n_1 hP t100_23 (by exact rfl) ?_
    exact loop2 13 0 (ma 4) (by omega) (by omega) (fun j hj => by omega)
  have loop1 : ∀ (n i : Nat) (g : Nat → Int32), i ≤ 1152 → 1152 + 1 ≤ i + n → (∀ j, j < i → g j = 0) → P 2 [some (.ref 39), some (.int (nI i))] [] (am_W3 ha hz a1 s1 t1 a2 s2 t2 al (am_u2 ma 14 g) ms mt) 0 0 := by
    intro n
    induction n with
    | zero => intro i g h3 h4; omega
    | succ n ih =>
      intro i g h3 h4 hi
      refine s_iload_n hP t100_2 rfl ?_
      refine s_sipush (v := 1152) hP t100_3 (by decide) ?_
      refine s_icmp_ge hP t100_6 (fun q6 => ?_) (fun q6 => ?_)
      · have e9 : 1152 ≤ i := mi_leN (by decide) (by omega) q6
        obtain rfl : i = 1152 := by omega
        exact after1 g hi
      · have e9 : i < 1152 := mi_nleN (a := 1152) (by decide) (by omega) q6
        refine s_aload_n hP t100_9 rfl ?_
        refine s_getfield hP t100_10 rfl rfl ?_
        refine s_iload_n hP t100_13 rfl ?_
        refine s_iconst (v := 0) hP t100_14 (by decide) ?_
        refine s_bastore hP t100_15 rfl (vp_in_nI e9 (by decide)) ?_
        rw [nI_clamp (by omega), mb_nz]
        refine s_iinc_1 (v := 1) hP t100_16 (by decide) (by exact rfl) ?_
        refine s_goto hP t100_19 ?_
        rw [nI_1]
        exact ih (i + 1) (upd g i 0) (by omega) (by omega) (fun j hj => by
          by_cases hji : j = i
          · rw [hji]; exact pk_us
          · rw [show upd g i 0 j = g j from pk_un hji]; exact hi j (by omega))
  exact loop1 1153 0 (ma 14) (by omega) (by omega) (fun j hj => by omega)
set_option maxHeartbeats 4000000 in
theorem sp56c {d : Nat} {K : am_K} {e0 : am_E} (k : K none [e0, .inr (2, [.null, .null, .null, .null]), .inr (5, [.ref 3, .ref 4, .ref 5]), .inl (1, 12, am_z 1), .inl (0, 12, am_z 0), .inl (0, 12, am_z 0)]) : am_Run (d + 1) 56 [.ref 2] [e0, .inr (2, [.null, .null, .null, .null]), .inr (5, [.null, .null, .null])] K := by
  refine ⟨rfl, fun P hm hP => ?_⟩
  show P 0 [some (.ref 2)] [] _ 3 36
  refine s_aload_n hP t56_0 rfl ?_
  refine s_objinit hP t56_1 rfl ?_
  refine s_aload_n hP t56_4 rfl ?_
  refine s_bipush (v := 12) hP t56_5 (by decide) ?_
  refine s_newarray (N := 12) (bc' := 2) (bs' := 24) hP t56_7 rfl rfl rfl rfl rfl ?_
  show P 9 [some (.ref 2)] [.ref 3, .ref 2] [e0, .inr (2, [.null, .null, .null, .null]), .inr (5, [.null, .null, .null]), .inl (1, 12, am_z 1)] 2 24
  refine s_putfield hP t56_9 rfl rfl rfl rfl ?_
  refine s_aload_n hP t56_12 rfl ?_
  refine s_bipush (v := 12) hP t56_13 (by decide) ?_
  refine s_newarray (N := 12) (bc' := 1) (bs' := 12) hP t56_15 rfl rfl rfl rfl rfl ?_
  show P 17 [some (.ref 2)] [.ref 4, .ref 2] [e0, .inr (2, [.null, .null, .null, .null]), .inr (5, [.ref 3, .null, .null]), .inl (1, 12, am_z 1), .inl (0, 12, am_z 0)] 1 12
  refine s_putfield hP t56_17 rfl rfl rfl rfl ?_
  refine s_aload_n hP t56_20 rfl ?_
  refine s_bipush (v := 12) hP t56_21 (by decide) ?_
  refine s_newarray (N := 12) (bc' := 0) (bs' := 0) hP t56_23 rfl rfl rfl rfl rfl ?_
  show P 25 [some (.ref 2)] [.ref 5, .ref 2] [e0, .inr (2, [.null, .null, .null, .null]), .inr (5, [.ref 3, .ref 4, .null]), .inl (1, 12, am_z 1), .inl (0, 12, am_z 0), .inl (0, 12, am_z 0)] 0 0
  refine s_putfield hP t56_25 rfl rfl rfl rfl ?_
  refine s_return_ hP t56_28 rfl ?_
  exact k
set_option maxHeartbeats 4000000 in
theorem sp0c {d : Nat} {K : am_K} {e0 : am_E} (k : K none [e0, .inr (2, [.ref 2, .null, .null, .null]), .inr (5, [.ref 3, .ref 4, .ref 5]), .inl (1, 12, am_z 1), .inl (0, 12, am_z 0), .inl (0, 12, am_z 0), .inr (0, [.ref 7]), .inl (0, 72, am_z 0)]) : am_Run (d + 1) 0 [.ref 6] [e0, .inr (2, [.ref 2, .null, .null, .null]), .inr (5, [.ref 3, .ref 4, .ref 5]), .inl (1, 12, am_z 1), .inl (0, 12, am_z 0), .inl (0, 12, am_z 0), .inr (0, [.null])] K := by
  refine ⟨rfl, fun P hm hP => ?_⟩
  show P 0 [some (.ref 6)] [] _ 1 72
  refine s_aload_n hP t0_0 rfl ?_
  refine s_objinit hP t0_1 rfl ?_
  refine s_aload_n hP t0_4 rfl ?_
  refine s_bipush (v := 72) hP t0_5 (by decide) ?_
  refine s_newarray (N := 72) (bc' := 0) (bs' := 0) hP t0_7 rfl rfl rfl rfl rfl ?_
  show P 9 [some (.ref 6)] [.ref 7, .ref 6] [e0, .inr (2, [.ref 2, .null, .null, .null]), .inr (5, [.ref 3, .ref 4, .ref 5]), .inl (1, 12, am_z 1), .inl (0, 12, am_z 0), .inl (0, 12, am_z 0), .inr (0, [.null]), .inl (0, 72, am_z 0)] 0 0
  refine s_putfield hP t0_9 rfl rfl rfl rfl ?_
  refine s_return_ hP t0_12 rfl ?_
  exact k
set_option maxHeartbeats 4000000 in
theorem sp49c {d : Nat} {K : am_K} {e0 : am_E} (k : K none [e0, .inr (2, [.ref 2, .ref 6, .ref 8, .null]), .inr (5, [.ref 3, .ref 4, .ref 5]), .inl (1, 12, am_z 1), .inl (0, 12, am_z 0), .inl (0, 12, am_z 0), .inr (0, [.ref 7]), .inl (0, 72, am_z 0), .inl (0, 12, am_z 0), .inr (4, [.ref 10, .ref 11, .ref 12, .ref 13, .ref 14, .int 0]), .inl (0, 64, am_z 0), .inl (0, 64, am_z 0), .inl (0, 64, am_z 0), .inl (0, 64, am_z 0), .inl (0, 64, am_z 0)]) : am_Run (d + 1) 49 [.ref 9] [e0, .inr (2, [.ref 2, .ref 6, .ref 8, .null]), .inr (5, [.ref 3, .ref 4, .ref 5]), .inl (1, 12, am_z 1), .inl (0, 12, am_z 0), .inl (0, 12, am_z 0), .inr (0, [.ref 7]), .inl (0, 72, am_z 0), .inl (0, 12, am_z 0), .inr (4, [.null, .null, .null, .null, .null, .int 0])] K := by
  refine ⟨rfl, fun P hm hP => ?_⟩
  show P 0 [some (.ref 9)] [] _ 5 320
  refine s_aload_n hP t49_0 rfl ?_
  refine s_objinit hP t49_1 rfl ?_
  refine s_aload_n hP t49_4 rfl ?_
  refine s_bipush (v := 64) hP t49_5 (by decide) ?_
  refine s_newarray (N := 64) (bc' := 4) (bs' := 256) hP t49_7 rfl rfl rfl rfl rfl ?_
  show P 9 [some (.ref 9)] [.ref 10, .ref 9] [e0, .inr (2, [.ref 2, .ref 6, .ref 8, .null]), .inr (5, [.ref 3, .ref 4, .ref 5]), .inl (1, 12, am_z 1), .inl (0, 12, am_z 0), .inl (0, 12, am_z 0), .inr (0, [.ref 7]), .inl (0, 72, am_z 0), .inl (0, 12, am_z 0), .inr (4, [.null, .null, .null, .null, .null, .int 0]), .inl (0, 64, am_z 0)] 4 256
  refine s_putfield hP t49_9 rfl rfl rfl rfl ?_
  refine s_aload_n hP t49_12 rfl ?_
  refine s_bipush (v := 64) hP t49_13 (by decide) ?_
  refine s_newarray (N := 64) (bc' := 3) (bs' := 192) hP t49_15 rfl rfl rfl rfl rfl ?_
  show P 17 [some (.ref 9)] [.ref 11, .ref 9] [e0, .inr (2, [.ref 2, .ref 6, .ref 8, .null]), .inr (5, [.ref 3, .ref 4, .ref 5]), .inl (1, 12, am_z 1), .inl (0, 12, am_z 0), .inl (0, 12, am_z 0), .inr (0, [.ref 7]), .inl (0, 72, am_z 0), .inl (0, 12, am_z 0), .inr (4, [.ref 10, .null, .null, .null, .null, .int 0]), .inl (0, 64, am_z 0), .inl (0, 64, am_z 0)] 3 192
  refine s_putfield hP t49_17 rfl rfl rfl rfl ?_
  refine s_aload_n hP t49_20 rfl ?_
  refine s_bipush (v := 64) hP t49_21 (by decide) ?_
  refine s_newarray (N := 64) (bc' := 2) (bs' := 128) hP t49_23 rfl rfl rfl rfl rfl ?_
  show P 25 [some (.ref 9)] [.ref 12, .ref 9] [e0, .inr (2, [.ref 2, .ref 6, .ref 8, .null]), .inr (5, [.ref 3, .ref 4, .ref 5]), .inl (1, 12, am_z 1), .inl (0, 12, am_z 0), .inl (0, 12, am_z 0), .inr (0, [.ref 7]), .inl (0, 72, am_z 0), .inl (0, 12, am_z 0), .inr (4, [.ref 10, .ref 11, .null, .null, .null, .int 0]), .inl (0, 64, am_z 0), .inl (0, 64, am_z 0), .inl (0, 64, am_z 0)] 2 128
  refine s_putfield hP t49_25 rfl rfl rfl rfl ?_
  refine s_aload_n hP t49_28 rfl ?_
  refine s_bipush (v := 64) hP t49_29 (by decide) ?_
  refine s_newarray (N := 64) (bc' := 1) (bs' := 64) hP t49_31 rfl rfl rfl rfl rfl ?_
  show P 33 [some (.ref 9)] [.ref 13, .ref 9] [e0, .inr (2, [.ref 2, .ref 6, .ref 8, .null]), .inr (5, [.ref 3, .ref 4, .ref 5]), .inl (1, 12, am_z 1), .inl (0, 12, am_z 0), .inl (0, 12, am_z 0), .inr (0, [.ref 7]), .inl (0, 72, am_z 0), .inl (0, 12, am_z 0), .inr (4, [.ref 10, .ref 11, .ref 12, .null, .null, .int 0]), .inl (0, 64, am_z 0), .inl (0, 64, am_z 0), .inl (0, 64, am_z 0), .inl (0, 64, am_z 0)] 1 64
  refine s_putfield hP t49_33 rfl rfl rfl rfl ?_
  refine s_aload_n hP t49_36 rfl ?_
  refine s_bipush (v := 64) hP t49_37 (by decide) ?_
  refine s_newarray (N := 64) (bc' := 0) (bs' := 0) hP t49_39 rfl rfl rfl rfl rfl ?_
  show P 41 [some (.ref 9)] [.ref 14, .ref 9] [e0, .inr (2, [.ref 2, .ref 6, .ref 8, .null]), .inr (5, [.ref 3, .ref 4, .ref 5]), .inl (1, 12, am_z 1), .inl (0, 12, am_z 0), .inl (0, 12, am_z 0), .inr (0, [.ref 7]), .inl (0, 72, am_z 0), .inl (0, 12, am_z 0), .inr (4, [.ref 10, .ref 11, .ref 12, .ref 13, .null, .int 0]), .inl (0, 64, am_z 0), .inl (0, 64, am_z 0), .inl (0, 64, am_z 0), .inl (0, 64, am_z 0), .inl (0, 64, am_z 0)] 0 0
  refine s_putfield hP t49_41 rfl rfl rfl rfl ?_
  refine s_return_ hP t49_44 rfl ?_
  exact k
set_option maxHeartbeats 4000000 in
theorem sp40c {d : Nat} {K : am_K} {e0 : am_E} (k : K none [e0, .inr (2, [.ref 2, .ref 6, .ref 8, .ref 9]), .inr (5, [.ref 3, .ref 4, .ref 5]), .inl (1, 12, am_z 1), .inl (0, 12, am_z 0), .inl (0, 12, am_z 0), .inr (0, [.ref 7]), .inl (0, 72, am_z 0), .inl (0, 12, am_z 0), .inr (4, [.ref 10, .ref 11, .ref 12, .ref 13, .ref 14, .int 0]), .inl (0, 64, am_z 0), .inl (0, 64, am_z 0), .inl (0, 64, am_z 0), .inl (0, 64, am_z 0), .inl (0, 64, am_z 0)]) : am_Run (d + 2) 40 [.ref 1] [e0, .inr (2, [.null, .null, .null, .null])] K := by
  refine ⟨rfl, fun P hm hP => ?_⟩
  show P 0 [some (.ref 1)] [] _ 13 450
  refine s_aload_n hP t40_0 rfl ?_
  refine s_objinit hP t40_1 rfl ?_
  refine s_aload_n hP t40_4 rfl ?_
  refine s_new (bc' := 12) (bs' := 447) hP t40_5 rfl rfl rfl ?_
  show P 8 [some (.ref 1)] [.ref 2, .ref 1] [e0, .inr (2, [.null, .null, .null, .null]), .inr (5, [.null, .null, .null])] 12 447
  refine s_dup hP t40_8 rfl ?_
  show P 9 [some (.ref 1)] [.ref 2, .ref 2, .ref 1] [e0, .inr (2, [.null, .null, .null, .null]), .inr (5, [.null, .null, .null])] 12 447
  refine s_invokespecial (bc' := 9) (bs' := 411) hP t40_9 rfl rfl rfl rfl rfl ?_
  refine sp56c ?_
  show P 12 [some (.ref 1)] [.ref 2, .ref 1] [e0, .inr (2, [.null, .null, .null, .null]), .inr (5, [.ref 3, .ref 4, .ref 5]), .inl (1, 12, am_z 1), .inl (0, 12, am_z 0), .inl (0, 12, am_z 0)] 9 411
  refine s_putfield hP t40_12 rfl rfl rfl rfl ?_
  refine s_aload_n hP t40_15 rfl ?_
  refine s_new (bc' := 8) (bs' := 410) hP t40_16 rfl rfl rfl ?_
  show P 19 [some (.ref 1)] [.ref 6, .ref 1] [e0, .inr (2, [.ref 2, .null, .null, .null]), .inr (5, [.ref 3, .ref 4, .ref 5]), .inl (1, 12, am_z 1), .inl (0, 12, am_z 0), .inl (0, 12, am_z 0), .inr (0, [.null])] 8 410
  refine s_dup hP t40_19 rfl ?_
  show P 20 [some (.ref 1)] [.ref 6, .ref 6, .ref 1] [e0, .inr (2, [.ref 2, .null, .null, .null]), .inr (5, [.ref 3, .ref 4, .ref 5]), .inl (1, 12, am_z 1), .inl (0, 12, am_z 0), .inl (0, 12, am_z 0), .inr (0, [.null])] 8 410
  refine s_invokespecial (bc' := 7) (bs' := 338) hP t40_20 rfl rfl rfl rfl rfl ?_
  refine sp0c ?_
  show P 23 [some (.ref 1)] [.ref 6, .ref 1] [e0, .inr (2, [.ref 2, .null, .null, .null]), .inr (5, [.ref 3, .ref 4, .ref 5]), .inl (1, 12, am_z 1), .inl (0, 12, am_z 0), .inl (0, 12, am_z 0), .inr (0, [.ref 7]), .inl (0, 72, am_z 0)] 7 338
  refine s_putfield hP t40_23 rfl rfl rfl rfl ?_
  refine s_aload_n hP t40_26 rfl ?_
  refine s_bipush (v := 12) hP t40_27 (by decide) ?_
  refine s_newarray (N := 12) (bc' := 6) (bs' := 326) hP t40_29 rfl rfl rfl rfl rfl ?_
  show P 31 [some (.ref 1)] [.ref 8, .ref 1] [e0, .inr (2, [.ref 2, .ref 6, .null, .null]), .inr (5, [.ref 3, .ref 4, .ref 5]), .inl (1, 12, am_z 1), .inl (0, 12, am_z 0), .inl (0, 12, am_z 0), .inr (0, [.ref 7]), .inl (0, 72, am_z 0), .inl (0, 12, am_z 0)] 6 326
  refine s_putfield hP t40_31 rfl rfl rfl rfl ?_
  refine s_aload_n hP t40_34 rfl ?_
  refine s_new (bc' := 5) (bs' := 320) hP t40_35 rfl rfl rfl ?_
  show P 38 [some (.ref 1)] [.ref 9, .ref 1] [e0, .inr (2, [.ref 2, .ref 6, .ref 8, .null]), .inr (5, [.ref 3, .ref 4, .ref 5]), .inl (1, 12, am_z 1), .inl (0, 12, am_z 0), .inl (0, 12, am_z 0), .inr (0, [.ref 7]), .inl (0, 72, am_z 0), .inl (0, 12, am_z 0), .inr (4, [.null, .null, .null, .null, .null, .int 0])] 5 320
  refine s_dup hP t40_38 rfl ?_
  show P 39 [some (.ref 1)] [.ref 9, .ref 9, .ref 1] [e0, .inr (2, [.ref 2, .ref 6, .ref 8, .null]), .inr (5, [.ref 3, .ref 4, .ref 5]), .inl (1, 12, am_z 1), .inl (0, 12, am_z 0), .inl (0, 12, am_z 0), .inr (0, [.ref 7]), .inl (0, 72, am_z 0), .inl (0, 12, am_z 0), .inr (4, [.null, .null, .null, .null, .null, .int 0])] 5 320
  refine s_invokespecial (bc' := 0) (bs' := 0) hP t40_39 rfl rfl rfl rfl rfl ?_
  refine sp49c ?_
  show P 42 [some (.ref 1)] [.ref 9, .ref 1] [e0, .inr (2, [.ref 2, .ref 6, .ref 8, .null]), .inr (5, [.ref 3, .ref 4, .ref 5]), .inl (1, 12, am_z 1), .inl (0, 12, am_z 0), .inl (0, 12, am_z 0), .inr (0, [.ref 7]), .inl (0, 72, am_z 0), .inl (0, 12, am_z 0), .inr (4, [.ref 10, .ref 11, .ref 12, .ref 13, .ref 14, .int 0]), .inl (0, 64, am_z 0), .inl (0, 64, am_z 0), .inl (0, 64, am_z 0), .inl (0, 64, am_z 0), .inl (0, 64, am_z 0)] 0 0
  refine s_putfield hP t40_42 rfl rfl rfl rfl ?_
  refine s_return_ hP t40_45 rfl ?_
  exact k
set_option maxHeartbeats 4000000 in
theorem sp0_1 {d : Nat} {K : am_K} {e0 : am_E} {ha : Nat → Nat → Int32} {hz : Int32} (k : K none [e0, .inr (2, [.ref 2, .ref 6, .ref 8, .ref 9]), .inr (5, [.ref 3, .ref 4, .ref 5]), .inl (1, 12, .inl (ha 0)), .inl (0, 12, .inl (ha 1)), .inl (0, 12, .inl (ha 2)), .inr (0, [.ref 7]), .inl (0, 72, .inl (ha 3)), .inl (0, 12, .inl (ha 4)), .inr (4, [.ref 10, .ref 11, .ref 12, .ref 13, .ref 14, .int hz]), .inl (0, 64, .inl (ha 5)), .inl (0, 64, .inl (ha 6)), .inl (0, 64, .inl (ha 7)), .inl (0, 64, .inl (ha 8)), .inl (0, 64, .inl (ha 9)), .inr (1, [.null, .null, .null, .null, .null, .null, .null, .null, .int 0, .int 0, .int 0, .float 0, .int 0, .int 0, .int 0, .int 0, .int 0, .int 0, .int 0, .int 0]), .inr (0, [.ref 17]), .inl (0, 72, am_z 0)]) : am_Run (d + 1) 0 [.ref 16] [e0, .inr (2, [.ref 2, .ref 6, .ref 8, .ref 9]), .inr (5, [.ref 3, .ref 4, .ref 5]), .inl (1, 12, .inl (ha 0)), .inl (0, 12, .inl (ha 1)), .inl (0, 12, .inl (ha 2)), .inr (0, [.ref 7]), .inl (0, 72, .inl (ha 3)), .inl (0, 12, .inl (ha 4)), .inr (4, [.ref 10, .ref 11, .ref 12, .ref 13, .ref 14, .int hz]), .inl (0, 64, .inl (ha 5)), .inl (0, 64, .inl (ha 6)), .inl (0, 64, .inl (ha 7)), .inl (0, 64, .inl (ha 8)), .inl (0, 64, .inl (ha 9)), .inr (1, [.null, .null, .null, .null, .null, .null, .null, .null, .int 0, .int 0, .int 0, .float 0, .int 0, .int 0, .int 0, .int 0, .int 0, .int 0, .int 0, .int 0]), .inr (0, [.null])] K := by
  refine ⟨rfl, fun P hm hP => ?_⟩
  show P 0 [some (.ref 16)] [] _ 1 72
  refine s_aload_n hP t0_0 rfl ?_
  refine s_objinit hP t0_1 rfl ?_
  refine s_aload_n hP t0_4 rfl ?_
  refine s_bipush (v := 72) hP t0_5 (by decide) ?_
  refine s_newarray (N := 72) (bc' := 0) (bs' := 0) hP t0_7 rfl rfl rfl rfl rfl ?_
  show P 9 [some (.ref 16)] [.ref 17, .ref 16] [e0, .inr (2, [.ref 2, .ref 6, .ref 8, .ref 9]), .inr (5, [.ref 3, .ref 4, .ref 5]), .inl (1, 12, .inl (ha 0)), .inl (0, 12, .inl (ha 1)), .inl (0, 12, .inl (ha 2)), .inr (0, [.ref 7]), .inl (0, 72, .inl (ha 3)), .inl (0, 12, .inl (ha 4)), .inr (4, [.ref 10, .ref 11, .ref 12, .ref 13, .ref 14, .int hz]), .inl (0, 64, .inl (ha 5)), .inl (0, 64, .inl (ha 6)), .inl (0, 64, .inl (ha 7)), .inl (0, 64, .inl (ha 8)), .inl (0, 64, .inl (ha 9)), .inr (1, [.null, .null, .null, .null, .null, .null, .null, .null, .int 0, .int 0, .int 0, .float 0, .int 0, .int 0, .int 0, .int 0, .int 0, .int 0, .int 0, .int 0]), .inr (0, [.null]), .inl (0, 72, am_z 0)] 0 0
  refine s_putfield hP t0_9 rfl rfl rfl rfl ?_
  refine s_return_ hP t0_12 rfl ?_
  exact k
set_option maxHeartbeats 4000000 in
theorem sp41_1 {d : Nat} {K : am_K} {e0 : am_E} {ha : Nat → Nat → Int32} {hz : Int32} (k : K none [e0, .inr (2, [.ref 2, .ref 6, .ref 8, .ref 9]), .inr (5, [.ref 3, .ref 4, .ref 5]), .inl (1, 12, .inl (ha 0)), .inl (0, 12, .inl (ha 1)), .inl (0, 12, .inl (ha 2)), .inr (0, [.ref 7]), .inl (0, 72, .inl (ha 3)), .inl (0, 12, .inl (ha 4)), .inr (4, [.ref 10, .ref 11, .ref 12, .ref 13, .ref 14, .int hz]), .inl (0, 64, .inl (ha 5)), .inl (0, 64, .inl (ha 6)), .inl (0, 64, .inl (ha 7)), .inl (0, 64, .inl (ha 8)), .inl (0, 64, .inl (ha 9)), .inr (1, [.null, .ref 16, .ref 18, .ref 19, .ref 20, .ref 21, .null, .null, .int 0, .int 0, .int 0, .float 0, .int 0, .int 0, .int 0, .int 0, .int 0, .int 0, .int 0, .int 0]), .inr (0, [.ref 17]), .inl (0, 72, am_z 0), .inl (0, 12, am_z 0), .inl (0, 8, am_z 0), .inl (0, 3, am_z 0), .inl (0, 64, am_z 0), .inr (3, [.ref 23, .ref 24, .ref 25, .int 0]), .inl (0, 306, am_z 0), .inl (0, 306, am_z 0), .inl (0, 3, am_z 0)]) : am_Run (d + 1) 41 [.ref 22] [e0, .inr (2, [.ref 2, .ref 6, .ref 8, .ref 9]), .inr (5, [.ref 3, .ref 4, .ref 5]), .inl (1, 12, .inl (ha 0)), .inl (0, 12, .inl (ha 1)), .inl (0, 12, .inl (ha 2)), .inr (0, [.ref 7]), .inl (0, 72, .inl (ha 3)), .inl (0, 12, .inl (ha 4)), .inr (4, [.ref 10, .ref 11, .ref 12, .ref 13, .ref 14, .int hz]), .inl (0, 64, .inl (ha 5)), .inl (0, 64, .inl (ha 6)), .inl (0, 64, .inl (ha 7)), .inl (0, 64, .inl (ha 8)), .inl (0, 64, .inl (ha 9)), .inr (1, [.null, .ref 16, .ref 18, .ref 19, .ref 20, .ref 21, .null, .null, .int 0, .int 0, .int 0, .float 0, .int 0, .int 0, .int 0, .int 0, .int 0, .int 0, .int 0, .int 0]), .inr (0, [.ref 17]), .inl (0, 72, am_z 0), .inl (0, 12, am_z 0), .inl (0, 8, am_z 0), .inl (0, 3, am_z 0), .inl (0, 64, am_z 0), .inr (3, [.null, .null, .null, .int 0])] K := by
  refine ⟨rfl, fun P hm hP => ?_⟩
  show P 0 [some (.ref 22)] [] _ 3 615
  refine s_aload_n hP t41_0 rfl ?_
  refine s_objinit hP t41_1 rfl ?_
  refine s_aload_n hP t41_4 rfl ?_
  refine s_sipush (v := 306) hP t41_5 (by decide) ?_
  refine s_newarray (N := 306) (bc' := 2) (bs' := 309) hP t41_8 rfl rfl rfl rfl rfl ?_
  show P 10 [some (.ref 22)] [.ref 23, .ref 22] [e0, .inr (2, [.ref 2, .ref 6, .ref 8, .ref 9]), .inr (5, [.ref 3, .ref 4, .ref 5]), .inl (1, 12, .inl (ha 0)), .inl (0, 12, .inl (ha 1)), .inl (0, 12, .inl (ha 2)), .inr (0, [.ref 7]), .inl (0, 72, .inl (ha 3)), .inl (0, 12, .inl (ha 4)), .inr (4, [.ref 10, .ref 11, .ref 12, .ref 13, .ref 14, .int hz]), .inl (0, 64, .inl (ha 5)), .inl (0, 64, .inl (ha 6)), .inl (0, 64, .inl (ha 7)), .inl (0, 64, .inl (ha 8)), .inl (0, 64, .inl (ha 9)), .inr (1, [.null, .ref 16, .ref 18, .ref 19, .ref 20, .ref 21, .null, .null, .int 0, .int 0, .int 0, .float 0, .int 0, .int 0, .int 0, .int 0, .int 0, .int 0, .int 0, .int 0]), .inr (0, [.ref 17]), .inl (0, 72, am_z 0), .inl (0, 12, am_z 0), .inl (0, 8, am_z 0), .inl (0, 3, am_z 0), .inl (0, 64, am_z 0), .inr (3, [.null, .null, .null, .int 0]), .inl (0, 306, am_z 0)] 2 309
  refine s_putfield hP t41_10 rfl rfl rfl rfl ?_
  refine s_aload_n hP t41_13 rfl ?_
  refine s_sipush (v := 306) hP t41_14 (by decide) ?_
  refine s_newarray (N := 306) (bc' := 1) (bs' := 3) hP t41_17 rfl rfl rfl rfl rfl ?_
  show P 19 [some (.ref 22)] [.ref 24, .ref 22] [e0, .inr (2, [.ref 2, .ref 6, .ref 8, .ref 9]), .inr (5, [.ref 3, .ref 4, .ref 5]), .inl (1, 12, .inl (ha 0)), .inl (0, 12, .inl (ha 1)), .inl (0, 12, .inl (ha 2)), .inr (0, [.ref 7]), .inl (0, 72, .inl (ha 3)), .inl (0, 12, .inl (ha 4)), .inr (4, [.ref 10, .ref 11, .ref 12, .ref 13, .ref 14, .int hz]), .inl (0, 64, .inl (ha 5)), .inl (0, 64, .inl (ha 6)), .inl (0, 64, .inl (ha 7)), .inl (0, 64, .inl (ha 8)), .inl (0, 64, .inl (ha 9)), .inr (1, [.null, .ref 16, .ref 18, .ref 19, .ref 20, .ref 21, .null, .null, .int 0, .int 0, .int 0, .float 0, .int 0, .int 0, .int 0, .int 0, .int 0, .int 0, .int 0, .int 0]), .inr (0, [.ref 17]), .inl (0, 72, am_z 0), .inl (0, 12, am_z 0), .inl (0, 8, am_z 0), .inl (0, 3, am_z 0), .inl (0, 64, am_z 0), .inr (3, [.ref 23, .null, .null, .int 0]), .inl (0, 306, am_z 0), .inl (0, 306, am_z 0)] 1 3
  refine s_putfield hP t41_19 rfl rfl rfl rfl ?_
  refine s_aload_n hP t41_22 rfl ?_
  refine s_iconst (v := 3) hP t41_23 (by decide) ?_
  refine s_newarray (N := 3) (bc' := 0) (bs' := 0) hP t41_24 rfl rfl rfl rfl rfl ?_
  show P 26 [some (.ref 22)] [.ref 25, .ref 22] [e0, .inr (2, [.ref 2, .ref 6, .ref 8, .ref 9]), .inr (5, [.ref 3, .ref 4, .ref 5]), .inl (1, 12, .inl (ha 0)), .inl (0, 12, .inl (ha 1)), .inl (0, 12, .inl (ha 2)), .inr (0, [.ref 7]), .inl (0, 72, .inl (ha 3)), .inl (0, 12, .inl (ha 4)), .inr (4, [.ref 10, .ref 11, .ref 12, .ref 13, .ref 14, .int hz]), .inl (0, 64, .inl (ha 5)), .inl (0, 64, .inl (ha 6)), .inl (0, 64, .inl (ha 7)), .inl (0, 64, .inl (ha 8)), .inl (0, 64, .inl (ha 9)), .inr (1, [.null, .ref 16, .ref 18, .ref 19, .ref 20, .ref 21, .null, .null, .int 0, .int 0, .int 0, .float 0, .int 0, .int 0, .int 0, .int 0, .int 0, .int 0, .int 0, .int 0]), .inr (0, [.ref 17]), .inl (0, 72, am_z 0), .inl (0, 12, am_z 0), .inl (0, 8, am_z 0), .inl (0, 3, am_z 0), .inl (0, 64, am_z 0), .inr (3, [.ref 23, .ref 24, .null, .int 0]), .inl (0, 306, am_z 0), .inl (0, 306, am_z 0), .inl (0, 3, am_z 0)] 0 0
  refine s_putfield hP t41_26 rfl rfl rfl rfl ?_
  refine s_return_ hP t41_29 rfl ?_
  exact k
set_option maxHeartbeats 4000000 in
theorem sp61_1 {d : Nat} {K : am_K} {e0 : am_E} {ha : Nat → Nat → Int32} {hz : Int32} (k : K none [e0, .inr (2, [.ref 2, .ref 6, .ref 8, .ref 9]), .inr (5, [.ref 3, .ref 4, .ref 5]), .inl (1, 12, .inl (ha 0)), .inl (0, 12, .inl (ha 1)), .inl (0, 12, .inl (ha 2)), .inr (0, [.ref 7]), .inl (0, 72, .inl (ha 3)), .inl (0, 12, .inl (ha 4)), .inr (4, [.ref 10, .ref 11, .ref 12, .ref 13, .ref 14, .int hz]), .inl (0, 64, .inl (ha 5)), .inl (0, 64, .inl (ha 6)), .inl (0, 64, .inl (ha 7)), .inl (0, 64, .inl (ha 8)), .inl (0, 64, .inl (ha 9)), .inr (1, [.null, .ref 16, .ref 18, .ref 19, .ref 20, .ref 21, .ref 22, .null, .int 0, .int 0, .int 0, .float 0, .int 0, .int 0, .int 0, .int 0, .int 0, .int 0, .int 0, .int 0]), .inr (0, [.ref 17]), .inl (0, 72, am_z 0), .inl (0, 12, am_z 0), .inl (0, 8, am_z 0), .inl (0, 3, am_z 0), .inl (0, 64, am_z 0), .inr (3, [.ref 23, .ref 24, .ref 25, .int 0]), .inl (0, 306, am_z 0), .inl (0, 306, am_z 0), .inl (0, 3, am_z 0), .inr (6, [.int 0, .int 0, .int 0, .int 0, .int 0])]) : am_Run (d + 1) 61 [.ref 26] [e0, .inr (2, [.ref 2, .ref 6, .ref 8, .ref 9]), .inr (5, [.ref 3, .ref 4, .ref 5]), .inl (1, 12, .inl (ha 0)), .inl (0, 12, .inl (ha 1)), .inl (0, 12, .inl (ha 2)), .inr (0, [.ref 7]), .inl (0, 72, .inl (ha 3)), .inl (0, 12, .inl (ha 4)), .inr (4, [.ref 10, .ref 11, .ref 12, .ref 13, .ref 14, .int hz]), .inl (0, 64, .inl (ha 5)), .inl (0, 64, .inl (ha 6)), .inl (0, 64, .inl (ha 7)), .inl (0, 64, .inl (ha 8)), .inl (0, 64, .inl (ha 9)), .inr (1, [.null, .ref 16, .ref 18, .ref 19, .ref 20, .ref 21, .ref 22, .null, .int 0, .int 0, .int 0, .float 0, .int 0, .int 0, .int 0, .int 0, .int 0, .int 0, .int 0, .int 0]), .inr (0, [.ref 17]), .inl (0, 72, am_z 0), .inl (0, 12, am_z 0), .inl (0, 8, am_z 0), .inl (0, 3, am_z 0), .inl (0, 64, am_z 0), .inr (3, [.ref 23, .ref 24, .ref 25, .int 0]), .inl (0, 306, am_z 0), .inl (0, 306, am_z 0), .inl (0, 3, am_z 0), .inr (6, [.int 0, .int 0, .int 0, .int 0, .int 0])] K := by
  refine ⟨rfl, fun P hm hP => ?_⟩
  show P 0 [some (.ref 26)] [] _ 0 0
  refine s_aload_n hP t61_0 rfl ?_
  refine s_objinit hP t61_1 rfl ?_
  refine s_return_ hP t61_4 rfl ?_
  exact k
set_option maxHeartbeats 8000000 in
theorem sp10_1 {d : Nat} {K : am_K} {e0 : am_E} {ha : Nat → Nat → Int32} {hz : Int32} (k : ∀ g u v : Nat → Int32, (∀ j, j < 72 → g j = 65535) → (∀ j, j < 12 → u j = 0) → (∀ j, j < 8 → v j = 0) → K none (am_W1 e0 ha hz (mc_a0 (fun _ _ => 0) g u v) (mc_s0 (fun _ => 0)) FP.fconst0)) : am_Run (d + 4) 10 [.ref 15, .ref 1] [e0, .inr (2, [.ref 2, .ref 6, .ref 8, .ref 9]), .inr (5, [.ref 3, .ref 4, .ref 5]), .inl (1, 12, .inl (ha 0)), .inl (0, 12, .inl (ha 1)), .inl (0, 12, .inl (ha 2)), .inr (0, [.ref 7]), .inl (0, 72, .inl (ha 3)), .inl (0, 12, .inl (ha 4)), .inr (4, [.ref 10, .ref 11, .ref 12, .ref 13, .ref 14, .int hz]), .inl (0, 64, .inl (ha 5)), .inl (0, 64, .inl (ha 6)), .inl (0, 64, .inl (ha 7)), .inl (0, 64, .inl (ha 8)), .inl (0, 64, .inl (ha 9)), .inr (1, [.null, .null, .null, .null, .null, .null, .null, .null, .int 0, .int 0, .int 0, .float 0, .int 0, .int 0, .int 0, .int 0, .int 0, .int 0, .int 0, .int 0])] K := by
  refine ⟨rfl, fun P hm hP => ?_⟩
  show P 0 [some (.ref 15), some (.ref 1)] [] _ 11 784
  refine s_aload_n hP t10_0 rfl ?_
  refine s_objinit hP t10_1 rfl ?_
  refine s_aload_n hP t10_4 rfl ?_
  refine s_new (bc' := 10) (bs' := 783) hP t10_5 rfl rfl rfl ?_
  show P 8 [some (.ref 15), some (.ref 1)] [.ref 16, .ref 15] [e0, .inr (2, [.ref 2, .ref 6, .ref 8, .ref 9]), .inr (5, [.ref 3, .ref 4, .ref 5]), .inl (1, 12, .inl (ha 0)), .inl (0, 12, .inl (ha 1)), .inl (0, 12, .inl (ha 2)), .inr (0, [.ref 7]), .inl (0, 72, .inl (ha 3)), .inl (0, 12, .inl (ha 4)), .inr (4, [.ref 10, .ref 11, .ref 12, .ref 13, .ref 14, .int hz]), .inl (0, 64, .inl (ha 5)), .inl (0, 64, .inl (ha 6)), .inl (0, 64, .inl (ha 7)), .inl (0, 64, .inl (ha 8)), .inl (0, 64, .inl (ha 9)), .inr (1, [.null, .null, .null, .null, .null, .null, .null, .null, .int 0, .int 0, .int 0, .float 0, .int 0, .int 0, .int 0, .int 0, .int 0, .int 0, .int 0, .int 0]), .inr (0, [.null])] 10 783
  refine s_dup hP t10_8 rfl ?_
  show P 9 [some (.ref 15), some (.ref 1)] [.ref 16, .ref 16, .ref 15] [e0, .inr (2, [.ref 2, .ref 6, .ref 8, .ref 9]), .inr (5, [.ref 3, .ref 4, .ref 5]), .inl (1, 12, .inl (ha 0)), .inl (0, 12, .inl (ha 1)), .inl (0, 12, .inl (ha 2)), .inr (0, [.ref 7]), .inl (0, 72, .inl (ha 3)), .inl (0, 12, .inl (ha 4)), .inr (4, [.ref 10, .ref 11, .ref 12, .ref 13, .ref 14, .int hz]), .inl (0, 64, .inl (ha 5)), .inl (0, 64, .inl (ha 6)), .inl (0, 64, .inl (ha 7)), .inl (0, 64, .inl (ha 8)), .inl (0, 64, .inl (ha 9)), .inr (1, [.null, .null, .null, .null, .null, .null, .null, .null, .int 0, .int 0, .int 0, .float 0, .int 0, .int 0, .int 0, .int 0, .int 0, .int 0, .int 0, .int 0]), .inr (0, [.null])] 10 783
  refine s_invokespecial (bc' := 9) (bs' := 711) hP t10_9 rfl rfl rfl rfl rfl ?_
  refine sp0_1 ?_
  show P 12 [some (.ref 15), some (.ref 1)] [.ref 16, .ref 15] [e0, .inr (2, [.ref 2, .ref 6, .ref 8, .ref 9]), .inr (5, [.ref 3, .ref 4, .ref 5]), .inl (1, 12, .inl (ha 0)), .inl (0, 12, .inl (ha 1)), .inl (0, 12, .inl (ha 2)), .inr (0, [.ref 7]), .inl (0, 72, .inl (ha 3)), .inl (0, 12, .inl (ha 4)), .inr (4, [.ref 10, .ref 11, .ref 12, .ref 13, .ref 14, .int hz]), .inl (0, 64, .inl (ha 5)), .inl (0, 64, .inl (ha 6)), .inl (0, 64, .inl (ha 7)), .inl (0, 64, .inl (ha 8)), .inl (0, 64, .inl (ha 9)), .inr (1, [.null, .null, .null, .null, .null, .null, .null, .null, .int 0, .int 0, .int 0, .float 0, .int 0, .int 0, .int 0, .int 0, .int 0, .int 0, .int 0, .int 0]), .inr (0, [.ref 17]), .inl (0, 72, am_z 0)] 9 711
  refine s_putfield hP t10_12 rfl rfl rfl rfl ?_
  refine s_aload_n hP t10_15 rfl ?_
  refine s_bipush (v := 12) hP t10_16 (by decide) ?_
  refine s_newarray (N := 12) (bc' := 8) (bs' := 699) hP t10_18 rfl rfl rfl rfl rfl ?_
  show P 20 [some (.ref 15), some (.ref 1)] [.ref 18, .ref 15] [e0, .inr (2, [.ref 2, .ref 6, .ref 8, .ref 9]), .inr (5, [.ref 3, .ref 4, .ref 5]), .inl (1, 12, .inl (ha 0)), .inl (0, 12, .inl (ha 1)), .inl (0, 12, .inl (ha 2)), .inr (0, [.ref 7]), .inl (0, 72, .inl (ha 3)), .inl (0, 12, .inl (ha 4)), .inr (4, [.ref 10, .ref 11, .ref 12, .ref 13, .ref 14, .int hz]), .inl (0, 64, .inl (ha 5)), .inl (0, 64, .inl (ha 6)), .inl (0, 64, .inl (ha 7)), .inl (0, 64, .inl (ha 8)), .inl (0, 64, .inl (ha 9)), .inr (1, [.null, .ref 16, .null, .null, .null, .null, .null, .null, .int 0, .int 0, .int 0, .float 0, .int 0, .int 0, .int 0, .int 0, .int 0, .int 0, .int 0, .int 0]), .inr (0, [.ref 17]), .inl (0, 72, am_z 0), .inl (0, 12, am_z 0)] 8 699
  refine s_putfield hP t10_20 rfl rfl rfl rfl ?_
  refine s_aload_n hP t10_23 rfl ?_
  refine s_bipush (v := 8) hP t10_24 (by decide) ?_
  refine s_newarray (N := 8) (bc' := 7) (bs' := 691) hP t10_26 rfl rfl rfl rfl rfl ?_
  show P 28 [some (.ref 15), some (.ref 1)] [.ref 19, .ref 15] [e0, .inr (2, [.ref 2, .ref 6, .ref 8, .ref 9]), .inr (5, [.ref 3, .ref 4, .ref 5]), .inl (1, 12, .inl (ha 0)), .inl (0, 12, .inl (ha 1)), .inl (0, 12, .inl (ha 2)), .inr (0, [.ref 7]), .inl (0, 72, .inl (ha 3)), .inl (0, 12, .inl (ha 4)), .inr (4, [.ref 10, .ref 11, .ref 12, .ref 13, .ref 14, .int hz]), .inl (0, 64, .inl (ha 5)), .inl (0, 64, .inl (ha 6)), .inl (0, 64, .inl (ha 7)), .inl (0, 64, .inl (ha 8)), .inl (0, 64, .inl (ha 9)), .inr (1, [.null, .ref 16, .ref 18, .null, .null, .null, .null, .null, .int 0, .int 0, .int 0, .float 0, .int 0, .int 0, .int 0, .int 0, .int 0, .int 0, .int 0, .int 0]), .inr (0, [.ref 17]), .inl (0, 72, am_z 0), .inl (0, 12, am_z 0), .inl (0, 8, am_z 0)] 7 691
  refine s_putfield hP t10_28 rfl rfl rfl rfl ?_
  refine s_aload_n hP t10_31 rfl ?_
  refine s_iconst (v := 3) hP t10_32 (by decide) ?_
  refine s_newarray (N := 3) (bc' := 6) (bs' := 688) hP t10_33 rfl rfl rfl rfl rfl ?_
  show P 35 [some (.ref 15), some (.ref 1)] [.ref 20, .ref 15] [e0, .inr (2, [.ref 2, .ref 6, .ref 8, .ref 9]), .inr (5, [.ref 3, .ref 4, .ref 5]), .inl (1, 12, .inl (ha 0)), .inl (0, 12, .inl (ha 1)), .inl (0, 12, .inl (ha 2)), .inr (0, [.ref 7]), .inl (0, 72, .inl (ha 3)), .inl (0, 12, .inl (ha 4)), .inr (4, [.ref 10, .ref 11, .ref 12, .ref 13, .ref 14, .int hz]), .inl (0, 64, .inl (ha 5)), .inl (0, 64, .inl (ha 6)), .inl (0, 64, .inl (ha 7)), .inl (0, 64, .inl (ha 8)), .inl (0, 64, .inl (ha 9)), .inr (1, [.null, .ref 16, .ref 18, .ref 19, .null, .null, .null, .null, .int 0, .int 0, .int 0, .float 0, .int 0, .int 0, .int 0, .int 0, .int 0, .int 0, .int 0, .int 0]), .inr (0, [.ref 17]), .inl (0, 72, am_z 0), .inl (0, 12, am_z 0), .inl (0, 8, am_z 0), .inl (0, 3, am_z 0)] 6 688
  refine s_putfield hP t10_35 rfl rfl rfl rfl ?_
  refine s_aload_n hP t10_38 rfl ?_
  refine s_bipush (v := 64) hP t10_39 (by decide) ?_
  refine s_newarray (N := 64) (bc' := 5) (bs' := 624) hP t10_41 rfl rfl rfl rfl rfl ?_
  show P 43 [some (.ref 15), some (.ref 1)] [.ref 21, .ref 15] [e0, .inr (2, [.ref 2, .ref 6, .ref 8, .ref 9]), .inr (5, [.ref 3, .ref 4, .ref 5]), .inl (1, 12, .inl (ha 0)), .inl (0, 12, .inl (ha 1)), .inl (0, 12, .inl (ha 2)), .inr (0, [.ref 7]), .inl (0, 72, .inl (ha 3)), .inl (0, 12, .inl (ha 4)), .inr (4, [.ref 10, .ref 11, .ref 12, .ref 13, .ref 14, .int hz]), .inl (0, 64, .inl (ha 5)), .inl (0, 64, .inl (ha 6)), .inl (0, 64, .inl (ha 7)), .inl (0, 64, .inl (ha 8)), .inl (0, 64, .inl (ha 9)), .inr (1, [.null, .ref 16, .ref 18, .ref 19, .ref 20, .null, .null, .null, .int 0, .int 0, .int 0, .float 0, .int 0, .int 0, .int 0, .int 0, .int 0, .int 0, .int 0, .int 0]), .inr (0, [.ref 17]), .inl (0, 72, am_z 0), .inl (0, 12, am_z 0), .inl (0, 8, am_z 0), .inl (0, 3, am_z 0), .inl (0, 64, am_z 0)] 5 624
  refine s_putfield hP t10_43 rfl rfl rfl rfl ?_
  refine s_aload_n hP t10_46 rfl ?_
  refine s_new (bc' := 4) (bs' := 620) hP t10_47 rfl rfl rfl ?_
  show P 50 [some (.ref 15), some (.ref 1)] [.ref 22, .ref 15] [e0, .inr (2, [.ref 2, .ref 6, .ref 8, .ref 9]), .inr (5, [.ref 3, .ref 4, .ref 5]), .inl (1, 12, .inl (ha 0)), .inl (0, 12, .inl (ha 1)), .inl (0, 12, .inl (ha 2)), .inr (0, [.ref 7]), .inl (0, 72, .inl (ha 3)), .inl (0, 12, .inl (ha 4)), .inr (4, [.ref 10, .ref 11, .ref 12, .ref 13, .ref 14, .int hz]), .inl (0, 64, .inl (ha 5)), .inl (0, 64, .inl (ha 6)), .inl (0, 64, .inl (ha 7)), .inl (0, 64, .inl (ha 8)), .inl (0, 64, .inl (ha 9)), .inr (1, [.null, .ref 16, .ref 18, .ref 19, .ref 20, .ref 21, .null, .null, .int 0, .int 0, .int 0, .float 0, .int 0, .int 0, .int 0, .int 0, .int 0, .int 0, .int 0, .int 0]), .inr (0, [.ref 17]), .inl (0, 72, am_z 0), .inl (0, 12, am_z 0), .inl (0, 8, am_z 0), .inl (0, 3, am_z 0), .inl (0, 64, am_z 0), .inr (3, [.null, .null, .null, .int 0])] 4 620
  refine s_dup hP t10_50 rfl ?_
  show P 51 [some (.ref 15), some (.ref 1)] [.ref 22, .ref 22, .ref 15] [e0, .inr (2, [.ref 2, .ref 6, .ref 8, .ref 9]), .inr (5, [.ref 3, .ref 4, .ref 5]), .inl (1, 12, .inl (ha 0)), .inl (0, 12, .inl (ha 1)), .inl (0, 12, .inl (ha 2)), .inr (0, [.ref 7]), .inl (0, 72, .inl (ha 3)), .inl (0, 12, .inl (ha 4)), .inr (4, [.ref 10, .ref 11, .ref 12, .ref 13, .ref 14, .int hz]), .inl (0, 64, .inl (ha 5)), .inl (0, 64, .inl (ha 6)), .inl (0, 64, .inl (ha 7)), .inl (0, 64, .inl (ha 8)), .inl (0, 64, .inl (ha 9)), .inr (1, [.null, .ref 16, .ref 18, .ref 19, .ref 20, .ref 21, .null, .null, .int 0, .int 0, .int 0, .float 0, .int 0, .int 0, .int 0, .int 0, .int 0, .int 0, .int 0, .int 0]), .inr (0, [.ref 17]), .inl (0, 72, am_z 0), .inl (0, 12, am_z 0), .inl (0, 8, am_z 0), .inl (0, 3, am_z 0), .inl (0, 64, am_z 0), .inr (3, [.null, .null, .null, .int 0])] 4 620
  refine s_invokespecial (bc' := 1) (bs' := 5) hP t10_51 rfl rfl rfl rfl rfl ?_
  refine sp41_1 ?_
  show P 54 [some (.ref 15), some (.ref 1)] [.ref 22, .ref 15] [e0, .inr (2, [.ref 2, .ref 6, .ref 8, .ref 9]), .inr (5, [.ref 3, .ref 4, .ref 5]), .inl (1, 12, .inl (ha 0)), .inl (0, 12, .inl (ha 1)), .inl (0, 12, .inl (ha 2)), .inr (0, [.ref 7]), .inl (0, 72, .inl (ha 3)), .inl (0, 12, .inl (ha 4)), .inr (4, [.ref 10, .ref 11, .ref 12, .ref 13, .ref 14, .int hz]), .inl (0, 64, .inl (ha 5)), .inl (0, 64, .inl (ha 6)), .inl (0, 64, .inl (ha 7)), .inl (0, 64, .inl (ha 8)), .inl (0, 64, .inl (ha 9)), .inr (1, [.null, .ref 16, .ref 18, .ref 19, .ref 20, .ref 21, .null, .null, .int 0, .int 0, .int 0, .float 0, .int 0, .int 0, .int 0, .int 0, .int 0, .int 0, .int 0, .int 0]), .inr (0, [.ref 17]), .inl (0, 72, am_z 0), .inl (0, 12, am_z 0), .inl (0, 8, am_z 0), .inl (0, 3, am_z 0), .inl (0, 64, am_z 0), .inr (3, [.ref 23, .ref 24, .ref 25, .int 0]), .inl (0, 306, am_z 0), .inl (0, 306, am_z 0), .inl (0, 3, am_z 0)] 1 5
  refine s_putfield hP t10_54 rfl rfl rfl rfl ?_
  refine s_aload_n hP t10_57 rfl ?_
  refine s_new (bc' := 0) (bs' := 0) hP t10_58 rfl rfl rfl ?_
  show P 61 [some (.ref 15), some (.ref 1)] [.ref 26, .ref 15] [e0, .inr (2, [.ref 2, .ref 6, .ref 8, .ref 9]), .inr (5, [.ref 3, .ref 4, .ref 5]), .inl (1, 12, .inl (ha 0)), .inl (0, 12, .inl (ha 1)), .inl (0, 12, .inl (ha 2)), .inr (0, [.ref 7]), .inl (0, 72, .inl (ha 3)), .inl (0, 12, .inl (ha 4)), .inr (4, [.ref 10, .ref 11, .ref 12, .ref 13, .ref 14, .int hz]), .inl (0, 64, .inl (ha 5)), .inl (0, 64, .inl (ha 6)), .inl (0, 64, .inl (ha 7)), .inl (0, 64, .inl (ha 8)), .inl (0, 64, .inl (ha 9)), .inr (1, [.null, .ref 16, .ref 18, .ref 19, .ref 20, .ref 21, .ref 22, .null, .int 0, .int 0, .int 0, .float 0, .int 0, .int 0, .int 0, .int 0, .int 0, .int 0, .int 0, .int 0]), .inr (0, [.ref 17]), .inl (0, 72, am_z 0), .inl (0, 12, am_z 0), .inl (0, 8, am_z 0), .inl (0, 3, am_z 0), .inl (0, 64, am_z 0), .inr (3, [.ref 23, .ref 24, .ref 25, .int 0]), .inl (0, 306, am_z 0), .inl (0, 306, am_z 0), .inl (0, 3, am_z 0), .inr (6, [.int 0, .int 0, .int 0, .int 0, .int 0])] 0 0
  refine s_dup hP t10_61 rfl ?_
  show P 62 [some (.ref 15), some (.ref 1)] [.ref 26, .ref 26, .ref 15] [e0, .inr (2, [.ref 2, .ref 6, .ref 8, .ref 9]), .inr (5, [.ref 3, .ref 4, .ref 5]), .inl (1, 12, .inl (ha 0)), .inl (0, 12, .inl (ha 1)), .inl (0, 12, .inl (ha 2)), .inr (0, [.ref 7]), .inl (0, 72, .inl (ha 3)), .inl (0, 12, .inl (ha 4)), .inr (4, [.ref 10, .ref 11, .ref 12, .ref 13, .ref 14, .int hz]), .inl (0, 64, .inl (ha 5)), .inl (0, 64, .inl (ha 6)), .inl (0, 64, .inl (ha 7)), .inl (0, 64, .inl (ha 8)), .inl (0, 64, .inl (ha 9)), .inr (1, [.null, .ref 16, .ref 18, .ref 19, .ref 20, .ref 21, .ref 22, .null, .int 0, .int 0, .int 0, .float 0, .int 0, .int 0, .int 0, .int 0, .int 0, .int 0, .int 0, .int 0]), .inr (0, [.ref 17]), .inl (0, 72, am_z 0), .inl (0, 12, am_z 0), .inl (0, 8, am_z 0), .inl (0, 3, am_z 0), .inl (0, 64, am_z 0), .inr (3, [.ref 23, .ref 24, .ref 25, .int 0]), .inl (0, 306, am_z 0), .inl (0, 306, am_z 0), .inl (0, 3, am_z 0), .inr (6, [.int 0, .int 0, .int 0, .int 0, .int 0])] 0 0
  refine s_invokespecial (bc' := 0) (bs' := 0) hP t10_62 rfl rfl rfl rfl rfl ?_
  refine sp61_1 ?_
  show P 65 [some (.ref 15), some (.ref 1)] [.ref 26, .ref 15] [e0, .inr (2, [.ref 2, .ref 6, .ref 8, .ref 9]), .inr (5, [.ref 3, .ref 4, .ref 5]), .inl (1, 12, .inl (ha 0)), .inl (0, 12, .inl (ha 1)), .inl (0, 12, .inl (ha 2)), .inr (0, [.ref 7]), .inl (0, 72, .inl (ha 3)), .inl (0, 12, .inl (ha 4)), .inr (4, [.ref 10, .ref 11, .ref 12, .ref 13, .ref 14, .int hz]), .inl (0, 64, .inl (ha 5)), .inl (0, 64, .inl (ha 6)), .inl (0, 64, .inl (ha 7)), .inl (0, 64, .inl (ha 8)), .inl (0, 64, .inl (ha 9)), .inr (1, [.null, .ref 16, .ref 18, .ref 19, .ref 20, .ref 21, .ref 22, .null, .int 0, .int 0, .int 0, .float 0, .int 0, .int 0, .int 0, .int 0, .int 0, .int 0, .int 0, .int 0]), .inr (0, [.ref 17]), .inl (0, 72, am_z 0), .inl (0, 12, am_z 0), .inl (0, 8, am_z 0), .inl (0, 3, am_z 0), .inl (0, 64, am_z 0), .inr (3, [.ref 23, .ref 24, .ref 25, .int 0]), .inl (0, 306, am_z 0), .inl (0, 306, am_z 0), .inl (0, 3, am_z 0), .inr (6, [.int 0, .int 0, .int 0, .int 0, .int 0])] 0 0
  refine s_putfield hP t10_65 rfl rfl rfl rfl ?_
  refine s_aload_n hP t10_68 rfl ?_
  refine s_aload_n hP t10_69 rfl ?_
  refine s_putfield hP t10_70 rfl rfl rfl rfl ?_
  refine s_aload_n hP t10_73 rfl ?_
  show P 74 [some (.ref 15), some (.ref 1)] [.ref 15] [e0, .inr (2, [.ref 2, .ref 6, .ref 8, .ref 9]), .inr (5, [.ref 3, .ref 4, .ref 5]), .inl (1, 12, .inl (ha 0)), .inl (0, 12, .inl (ha 1)), .inl (0, 12, .inl (ha 2)), .inr (0, [.ref 7]), .inl (0, 72, .inl (ha 3)), .inl (0, 12, .inl (ha 4)), .inr (4, [.ref 10, .ref 11, .ref 12, .ref 13, .ref 14, .int hz]), .inl (0, 64, .inl (ha 5)), .inl (0, 64, .inl (ha 6)), .inl (0, 64, .inl (ha 7)), .inl (0, 64, .inl (ha 8)), .inl (0, 64, .inl (ha 9)), .inr (1, [.ref 1, .ref 16, .ref 18, .ref 19, .ref 20, .ref 21, .ref 22, .ref 26, .int 0, .int 0, .int 0, .float 0, .int 0, .int 0, .int 0, .int 0, .int 0, .int 0, .int 0, .int 0]), .inr (0, [.ref 17]), .inl (0, 72, am_z 0), .inl (0, 12, am_z 0), .inl (0, 8, am_z 0), .inl (0, 3, am_z 0), .inl (0, 64, am_z 0), .inr (3, [.ref 23, .ref 24, .ref 25, .int 0]), .inl (0, 306, am_z 0), .inl (0, 306, am_z 0), .inl (0, 3, am_z 0), .inr (6, [.int 0, .int 0, .int 0, .int 0, .int 0])] 0 0
  refine s_invokevirtual (bc' := 0) (bs' := 0) hP t10_74 rfl rfl rfl rfl rfl ?_
  refine sp11p_1 (ha := ha) (hz := hz) (a1 := (fun _ _ => 0)) (s1 := (fun _ => 0)) (t1 := 0) (fun g u v hg hu hv => ?_)
  refine s_return_ hP t10_77 rfl ?_
  exact k g u v hg hu hv
set_option maxHeartbeats 4000000 in
theorem sp0_2 {d : Nat} {K : am_K} {e0 : am_E} {ha : Nat → Nat → Int32} {hz : Int32} {a1 : Nat → Nat → Int32} {s1 : Nat → Int32} {t1 : UInt32} (k : K none [e0, .inr (2, [.ref 2, .ref 6, .ref 8, .ref 9]), .inr (5, [.ref 3, .ref 4, .ref 5]), .inl (1, 12, .inl (ha 0)), .inl (0, 12, .inl (ha 1)), .inl (0, 12, .inl (ha 2)), .inr (0, [.ref 7]), .inl (0, 72, .inl (ha 3)), .inl (0, 12, .inl (ha 4)), .inr (4, [.ref 10, .ref 11, .ref 12, .ref 13, .ref 14, .int hz]), .inl (0, 64, .inl (ha 5)), .inl (0, 64, .inl (ha 6)), .inl (0, 64, .inl (ha 7)), .inl (0, 64, .inl (ha 8)), .inl (0, 64, .inl (ha 9)), .inr (1, [.ref 1, .ref 16, .ref 18, .ref 19, .ref 20, .ref 21, .ref 22, .ref 26, .int (s1 8), .int (s1 9), .int (s1 10), .float t1, .int (s1 12), .int (s1 13), .int (s1 14), .int (s1 15), .int (s1 16), .int (s1 17), .int (s1 18), .int (s1 19)]), .inr (0, [.ref 17]), .inl (0, 72, .inl (a1 0)), .inl (0, 12, .inl (a1 1)), .inl (0, 8, .inl (a1 2)), .inl (0, 3, .inl (a1 3)), .inl (0, 64, .inl (a1 4)), .inr (3, [.ref 23, .ref 24, .ref 25, .int (s1 20)]), .inl (0, 306, .inl (a1 5)), .inl (0, 306, .inl (a1 6)), .inl (0, 3, .inl (a1 7)), .inr (6, [.int (s1 21), .int (s1 22), .int (s1 23), .int (s1 24), .int (s1 25)]), .inr (1, [.null, .null, .null, .null, .null, .null, .null, .null, .int 0, .int 0, .int 0, .float 0, .int 0, .int 0, .int 0, .int 0, .int 0, .int 0, .int 0, .int 0]), .inr (0, [.ref 29]), .inl (0, 72, am_z 0)]) : am_Run (d + 1) 0 [.ref 28] [e0, .inr (2, [.ref 2, .ref 6, .ref 8, .ref 9]), .inr (5, [.ref 3, .ref 4, .ref 5]), .inl (1, 12, .inl (ha 0)), .inl (0, 12, .inl (ha 1)), .inl (0, 12, .inl (ha 2)), .inr (0, [.ref 7]), .inl (0, 72, .inl (ha 3)), .inl (0, 12, .inl (ha 4)), .inr (4, [.ref 10, .ref 11, .ref 12, .ref 13, .ref 14, .int hz]), .inl (0, 64, .inl (ha 5)), .inl (0, 64, .inl (ha 6)), .inl (0, 64, .inl (ha 7)), .inl (0, 64, .inl (ha 8)), .inl (0, 64, .inl (ha 9)), .inr (1, [.ref 1, .ref 16, .ref 18, .ref 19, .ref 20, .ref 21, .ref 22, .ref 26, .int (s1 8), .int (s1 9), .int (s1 10), .float t1, .int (s1 12), .int (s1 13), .int (s1 14), .int (s1 15), .int (s1 16), .int (s1 17), .int (s1 18), .int (s1 19)]), .inr (0, [.ref 17]), .inl (0, 72, .inl (a1 0)), .inl (0, 12, .inl (a1 1)), .inl (0, 8, .inl (a1 2)), .inl (0, 3, .inl (a1 3)), .inl (0, 64, .inl (a1 4)), .inr (3, [.ref 23, .ref 24, .ref 25, .int (s1 20)]), .inl (0, 306, .inl (a1 5)), .inl (0, 306, .inl (a1 6)), .inl (0, 3, .inl (a1 7)), .inr (6, [.int (s1 21), .int (s1 22), .int (s1 23), .int (s1 24), .int (s1 25)]), .inr (1, [.null, .null, .null, .null, .null, .null, .null, .null, .int 0, .int 0, .int 0, .float 0, .int 0, .int 0, .int 0, .int 0, .int 0, .int 0, .int 0, .int 0]), .inr (0, [.null])] K := by
  refine ⟨rfl, fun P hm hP => ?_⟩
  show P 0 [some (.ref 28)] [] _ 1 72
  refine s_aload_n hP t0_0 rfl ?_
  refine s_objinit hP t0_1 rfl ?_
  refine s_aload_n hP t0_4 rfl ?_
  refine s_bipush (v := 72) hP t0_5 (by decide) ?_
  refine s_newarray (N := 72) (bc' := 0) (bs' := 0) hP t0_7 rfl rfl rfl rfl rfl ?_
  show P 9 [some (.ref 28)] [.ref 29, .ref 28] [e0, .inr (2, [.ref 2, .ref 6, .ref 8, .ref 9]), .inr (5, [.ref 3, .ref 4, .ref 5]), .inl (1, 12, .inl (ha 0)), .inl (0, 12, .inl (ha 1)), .inl (0, 12, .inl (ha 2)), .inr (0, [.ref 7]), .inl (0, 72, .inl (ha 3)), .inl (0, 12, .inl (ha 4)), .inr (4, [.ref 10, .ref 11, .ref 12, .ref 13, .ref 14, .int hz]), .inl (0, 64, .inl (ha 5)), .inl (0, 64, .inl (ha 6)), .inl (0, 64, .inl (ha 7)), .inl (0, 64, .inl (ha 8)), .inl (0, 64, .inl (ha 9)), .inr (1, [.ref 1, .ref 16, .ref 18, .ref 19, .ref 20, .ref 21, .ref 22, .ref 26, .int (s1 8), .int (s1 9), .int (s1 10), .float t1, .int (s1 12), .int (s1 13), .int (s1 14), .int (s1 15), .int (s1 16), .int (s1 17), .int (s1 18), .int (s1 19)]), .inr (0, [.ref 17]), .inl (0, 72, .inl (a1 0)), .inl (0, 12, .inl (a1 1)), .inl (0, 8, .inl (a1 2)), .inl (0, 3, .inl (a1 3)), .inl (0, 64, .inl (a1 4)), .inr (3, [.ref 23, .ref 24, .ref 25, .int (s1 20)]), .inl (0, 306, .inl (a1 5)), .inl (0, 306, .inl (a1 6)), .inl (0, 3, .inl (a1 7)), .inr (6, [.int (s1 21), .int (s1 22), .int (s1 23), .int (s1 24), .int (s1 25)]), .inr (1, [.null, .null, .null, .null, .null, .null, .null, .null, .int 0, .int 0, .int 0, .float 0, .int 0, .int 0, .int 0, .int 0, .int 0, .int 0, .int 0, .int 0]), .inr (0, [.null]), .inl (0, 72, am_z 0)] 0 0
  refine s_putfield hP t0_9 rfl rfl rfl rfl ?_
  refine s_return_ hP t0_12 rfl ?_
  exact k
set_option maxHeartbeats 4000000 in
theorem sp41_2 {d : Nat} {K : am_K} {e0 : am_E} {ha : Nat → Nat → Int32} {hz : Int32} {a1 : Nat → Nat → Int32} {s1 : Nat → Int32} {t1 : UInt32} (k : K none [e0, .inr (2, [.ref 2, .ref 6, .ref 8, .ref 9]), .inr (5, [.ref 3, .ref 4, .ref 5]), .inl (1, 12, .inl (ha 0)), .inl (0, 12, .inl (ha 1)), .inl (0, 12, .inl (ha 2)), .inr (0, [.ref 7]), .inl (0, 72, .inl (ha 3)), .inl (0, 12, .inl (ha 4)), .inr (4, [.ref 10, .ref 11, .ref 12, .ref 13, .ref 14, .int hz]), .inl (0, 64, .inl (ha 5)), .inl (0, 64, .inl (ha 6)), .inl (0, 64, .inl (ha 7)), .inl (0, 64, .inl (ha 8)), .inl (0, 64, .inl (ha 9)), .inr (1, [.ref 1, .ref 16, .ref 18, .ref 19, .ref 20, .ref 21, .ref 22, .ref 26, .int (s1 8), .int (s1 9), .int (s1 10), .float t1, .int (s1 12), .int (s1 13), .int (s1 14), .int (s1 15), .int (s1 16), .int (s1 17), .int (s1 18), .int (s1 19)]), .inr (0, [.ref 17]), .inl (0, 72, .inl (a1 0)), .inl (0, 12, .inl (a1 1)), .inl (0, 8, .inl (a1 2)), .inl (0, 3, .inl (a1 3)), .inl (0, 64, .inl (a1 4)), .inr (3, [.ref 23, .ref 24, .ref 25, .int (s1 20)]), .inl (0, 306, .inl (a1 5)), .inl (0, 306, .inl (a1 6)), .inl (0, 3, .inl (a1 7)), .inr (6, [.int (s1 21), .int (s1 22), .int (s1 23), .int (s1 24), .int (s1 25)]), .inr (1, [.null, .ref 28, .ref 30, .ref 31, .ref 32, .ref 33, .null, .null, .int 0, .int 0, .int 0, .float 0, .int 0, .int 0, .int 0, .int 0, .int 0, .int 0, .int 0, .int 0]), .inr (0, [.ref 29]), .inl (0, 72, am_z 0), .inl (0, 12, am_z 0), .inl (0, 8, am_z 0), .inl (0, 3, am_z 0), .inl (0, 64, am_z 0), .inr (3, [.ref 35, .ref 36, .ref 37, .int 0]), .inl (0, 306, am_z 0), .inl (0, 306, am_z 0), .inl (0, 3, am_z 0)]) : am_Run (d + 1) 41 [.ref 34] [e0, .inr (2, [.ref 2, .ref 6, .ref 8, .ref 9]), .inr (5, [.ref 3, .ref 4, .ref 5]), .inl (1, 12, .inl (ha 0)), .inl (0, 12, .inl (ha 1)), .inl (0, 12, .inl (ha 2)), .inr (0, [.ref 7]), .inl (0, 72, .inl (ha 3)), .inl (0, 12, .inl (ha 4)), .inr (4, [.ref 10, .ref 11, .ref 12, .ref 13, .ref 14, .int hz]), .inl (0, 64, .inl (ha 5)), .inl (0, 64, .inl (ha 6)), .inl (0, 64, .inl (ha 7)), .inl (0, 64, .inl (ha 8)), .inl (0, 64, .inl (ha 9)), .inr (1, [.ref 1, .ref 16, .ref 18, .ref 19, .ref 20, .ref 21, .ref 22, .ref 26, .int (s1 8), .int (s1 9), .int (s1 10), .float t1, .int (s1 12), .int (s1 13), .int (s1 14), .int (s1 15), .int (s1 16), .int (s1 17), .int (s1 18), .int (s1 19)]), .inr (0, [.ref 17]), .inl (0, 72, .inl (a1 0)), .inl (0, 12, .inl (a1 1)), .inl (0, 8, .inl (a1 2)), .inl (0, 3, .inl (a1 3)), .inl (0, 64, .inl (a1 4)), .inr (3, [.ref 23, .ref 24, .ref 25, .int (s1 20)]), .inl (0, 306, .inl (a1 5)), .inl (0, 306, .inl (a1 6)), .inl (0, 3, .inl (a1 7)), .inr (6, [.int (s1 21), .int (s1 22), .int (s1 23), .int (s1 24), .int (s1 25)]), .inr (1, [.null, .ref 28, .ref 30, .ref 31, .ref 32, .ref 33, .null, .null, .int 0, .int 0, .int 0, .float 0, .int 0, .int 0, .int 0, .int 0, .int 0, .int 0, .int 0, .int 0]), .inr (0, [.ref 29]), .inl (0, 72, am_z 0), .inl (0, 12, am_z 0), .inl (0, 8, am_z 0), .inl (0, 3, am_z 0), .inl (0, 64, am_z 0), .inr (3, [.null, .null, .null, .int 0])] K := by
  refine ⟨rfl, fun P hm hP => ?_⟩
  show P 0 [some (.ref 34)] [] _ 3 615
  refine s_aload_n hP t41_0 rfl ?_
  refine s_objinit hP t41_1 rfl ?_
  refine s_aload_n hP t41_4 rfl ?_
  refine s_sipush (v := 306) hP t41_5 (by decide) ?_
  refine s_newarray (N := 306) (bc' := 2) (bs' := 309) hP t41_8 rfl rfl rfl rfl rfl ?_
  show P 10 [some (.ref 34)] [.ref 35, .ref 34] [e0, .inr (2, [.ref 2, .ref 6, .ref 8, .ref 9]), .inr (5, [.ref 3, .ref 4, .ref 5]), .inl (1, 12, .inl (ha 0)), .inl (0, 12, .inl (ha 1)), .inl (0, 12, .inl (ha 2)), .inr (0, [.ref 7]), .inl (0, 72, .inl (ha 3)), .inl (0, 12, .inl (ha 4)), .inr (4, [.ref 10, .ref 11, .ref 12, .ref 13, .ref 14, .int hz]), .inl (0, 64, .inl (ha 5)), .inl (0, 64, .inl (ha 6)), .inl (0, 64, .inl (ha 7)), .inl (0, 64, .inl (ha 8)), .inl (0, 64, .inl (ha 9)), .inr (1, [.ref 1, .ref 16, .ref 18, .ref 19, .ref 20, .ref 21, .ref 22, .ref 26, .int (s1 8), .int (s1 9), .int (s1 10), .float t1, .int (s1 12), .int (s1 13), .int (s1 14), .int (s1 15), .int (s1 16), .int (s1 17), .int (s1 18), .int (s1 19)]), .inr (0, [.ref 17]), .inl (0, 72, .inl (a1 0)), .inl (0, 12, .inl (a1 1)), .inl (0, 8, .inl (a1 2)), .inl (0, 3, .inl (a1 3)), .inl (0, 64, .inl (a1 4)), .inr (3, [.ref 23, .ref 24, .ref 25, .int (s1 20)]), .inl (0, 306, .inl (a1 5)), .inl (0, 306, .inl (a1 6)), .inl (0, 3, .inl (a1 7)), .inr (6, [.int (s1 21), .int (s1 22), .int (s1 23), .int (s1 24), .int (s1 25)]), .inr (1, [.null, .ref 28, .ref 30, .ref 31, .ref 32, .ref 33, .null, .null, .int 0, .int 0, .int 0, .float 0, .int 0, .int 0, .int 0, .int 0, .int 0, .int 0, .int 0, .int 0]), .inr (0, [.ref 29]), .inl (0, 72, am_z 0), .inl (0, 12, am_z 0), .inl (0, 8, am_z 0), .inl (0, 3, am_z 0), .inl (0, 64, am_z 0), .inr (3, [.null, .null, .null, .int 0]), .inl (0, 306, am_z 0)] 2 309
  refine s_putfield hP t41_10 rfl rfl rfl rfl ?_
  refine s_aload_n hP t41_13 rfl ?_
  refine s_sipush (v := 306) hP t41_14 (by decide) ?_
  refine s_newarray (N := 306) (bc' := 1) (bs' := 3) hP t41_17 rfl rfl rfl rfl rfl ?_
  show P 19 [some (.ref 34)] [.ref 36, .ref 34] [e0, .inr (2, [.ref 2, .ref 6, .ref 8, .ref 9]), .inr (5, [.ref 3, .ref 4, .ref 5]), .inl (1, 12, .inl (ha 0)), .inl (0, 12, .inl (ha 1)), .inl (0, 12, .inl (ha 2)), .inr (0, [.ref 7]), .inl (0, 72, .inl (ha 3)), .inl (0, 12, .inl (ha 4)), .inr (4, [.ref 10, .ref 11, .ref 12, .ref 13, .ref 14, .int hz]), .inl (0, 64, .inl (ha 5)), .inl (0, 64, .inl (ha 6)), .inl (0, 64, .inl (ha 7)), .inl (0, 64, .inl (ha 8)), .inl (0, 64, .inl (ha 9)), .inr (1, [.ref 1, .ref 16, .ref 18, .ref 19, .ref 20, .ref 21, .ref 22, .ref 26, .int (s1 8), .int (s1 9), .int (s1 10), .float t1, .int (s1 12), .int (s1 13), .int (s1 14), .int (s1 15), .int (s1 16), .int (s1 17), .int (s1 18), .int (s1 19)]), .inr (0, [.ref 17]), .inl (0, 72, .inl (a1 0)), .inl (0, 12, .inl (a1 1)), .inl (0, 8, .inl (a1 2)), .inl (0, 3, .inl (a1 3)), .inl (0, 64, .inl (a1 4)), .inr (3, [.ref 23, .ref 24, .ref 25, .int (s1 20)]), .inl (0, 306, .inl (a1 5)), .inl (0, 306, .inl (a1 6)), .inl (0, 3, .inl (a1 7)), .inr (6, [.int (s1 21), .int (s1 22), .int (s1 23), .int (s1 24), .int (s1 25)]), .inr (1, [.null, .ref 28, .ref 30, .ref 31, .ref 32, .ref 33, .null, .null, .int 0, .int 0, .int 0, .float 0, .int 0, .int 0, .int 0, .int 0, .int 0, .int 0, .int 0, .int 0]), .inr (0, [.ref 29]), .inl (0, 72, am_z 0), .inl (0, 12, am_z 0), .inl (0, 8, am_z 0), .inl (0, 3, am_z 0), .inl (0, 64, am_z 0), .inr (3, [.ref 35, .null, .null, .int 0]), .inl (0, 306, am_z 0), .inl (0, 306, am_z 0)] 1 3
  refine s_putfield hP t41_19 rfl rfl rfl rfl ?_
  refine s_aload_n hP t41_22 rfl ?_
  refine s_iconst (v := 3) hP t41_23 (by decide) ?_
  refine s_newarray (N := 3) (bc' := 0) (bs' := 0) hP t41_24 rfl rfl rfl rfl rfl ?_
  show P 26 [some (.ref 34)] [.ref 37, .ref 34] [e0, .inr (2, [.ref 2, .ref 6, .ref 8, .ref 9]), .inr (5, [.ref 3, .ref 4, .ref 5]), .inl (1, 12, .inl (ha 0)), .inl (0, 12, .inl (ha 1)), .inl (0, 12, .inl (ha 2)), .inr (0, [.ref 7]), .inl (0, 72, .inl (ha 3)), .inl (0, 12, .inl (ha 4)), .inr (4, [.ref 10, .ref 11, .ref 12, .ref 13, .ref 14, .int hz]), .inl (0, 64, .inl (ha 5)), .inl (0, 64, .inl (ha 6)), .inl (0, 64, .inl (ha 7)), .inl (0, 64, .inl (ha 8)), .inl (0, 64, .inl (ha 9)), .inr (1, [.ref 1, .ref 16, .ref 18, .ref 19, .ref 20, .ref 21, .ref 22, .ref 26, .int (s1 8), .int (s1 9), .int (s1 10), .float t1, .int (s1 12), .int (s1 13), .int (s1 14), .int (s1 15), .int (s1 16), .int (s1 17), .int (s1 18), .int (s1 19)]), .inr (0, [.ref 17]), .inl (0, 72, .inl (a1 0)), .inl (0, 12, .inl (a1 1)), .inl (0, 8, .inl (a1 2)), .inl (0, 3, .inl (a1 3)), .inl (0, 64, .inl (a1 4)), .inr (3, [.ref 23, .ref 24, .ref 25, .int (s1 20)]), .inl (0, 306, .inl (a1 5)), .inl (0, 306, .inl (a1 6)), .inl (0, 3, .inl (a1 7)), .inr (6, [.int (s1 21), .int (s1 22), .int (s1 23), .int (s1 24), .int (s1 25)]), .inr (1, [.null, .ref 28, .ref 30, .ref 31, .ref 32, .ref 33, .null, .null, .int 0, .int 0, .int 0, .float 0, .int 0, .int 0, .int 0, .int 0, .int 0, .int 0, .int 0, .int 0]), .inr (0, [.ref 29]), .inl (0, 72, am_z 0), .inl (0, 12, am_z 0), .inl (0, 8, am_z 0), .inl (0, 3, am_z 0), .inl (0, 64, am_z 0), .inr (3, [.ref 35, .ref 36, .null, .int 0]), .inl (0, 306, am_z 0), .inl (0, 306, am_z 0), .inl (0, 3, am_z 0)] 0 0
  refine s_putfield hP t41_26 rfl rfl rfl rfl ?_
  refine s_return_ hP t41_29 rfl ?_
  exact k
set_option maxHeartbeats 4000000 in
theorem sp61_2 {d : Nat} {K : am_K} {e0 : am_E} {ha : Nat → Nat → Int32} {hz : Int32} {a1 : Nat → Nat → Int32} {s1 : Nat → Int32} {t1 : UInt32} (k : K none [e0, .inr (2, [.ref 2, .ref 6, .ref 8, .ref 9]), .inr (5, [.ref 3, .ref 4, .ref 5]), .inl (1, 12, .inl (ha 0)), .inl (0, 12, .inl (ha 1)), .inl (0, 12, .inl (ha 2)), .inr (0, [.ref 7]), .inl (0, 72, .inl (ha 3)), .inl (0, 12, .inl (ha 4)), .inr (4, [.ref 10, .ref 11, .ref 12, .ref 13, .ref 14, .int hz]), .inl (0, 64, .inl (ha 5)), .inl (0, 64, .inl (ha 6)), .inl (0, 64, .inl (ha 7)), .inl (0, 64, .inl (ha 8)), .inl (0, 64, .inl (ha 9)), .inr (1, [.ref 1, .ref 16, .ref 18, .ref 19, .ref 20, .ref 21, .ref 22, .ref 26, .int (s1 8), .int (s1 9), .int (s1 10), .float t1, .int (s1 12), .int (s1 13), .int (s1 14), .int (s1 15), .int (s1 16), .int (s1 17), .int (s1 18), .int (s1 19)]), .inr (0, [.ref 17]), .inl (0, 72, .inl (a1 0)), .inl (0, 12, .inl (a1 1)), .inl (0, 8, .inl (a1 2)), .inl (0, 3, .inl (a1 3)), .inl (0, 64, .inl (a1 4)), .inr (3, [.ref 23, .ref 24, .ref 25, .int (s1 20)]), .inl (0, 306, .inl (a1 5)), .inl (0, 306, .inl (a1 6)), .inl (0, 3, .inl (a1 7)), .inr (6, [.int (s1 21), .int (s1 22), .int (s1 23), .int (s1 24), .int (s1 25)]), .inr (1, [.null, .ref 28, .ref 30, .ref 31, .ref 32, .ref 33, .ref 34, .null, .int 0, .int 0, .int 0, .float 0, .int 0, .int 0, .int 0, .int 0, .int 0, .int 0, .int 0, .int 0]), .inr (0, [.ref 29]), .inl (0, 72, am_z 0), .inl (0, 12, am_z 0), .inl (0, 8, am_z 0), .inl (0, 3, am_z 0), .inl (0, 64, am_z 0), .inr (3, [.ref 35, .ref 36, .ref 37, .int 0]), .inl (0, 306, am_z 0), .inl (0, 306, am_z 0), .inl (0, 3, am_z 0), .inr (6, [.int 0, .int 0, .int 0, .int 0, .int 0])]) : am_Run (d + 1) 61 [.ref 38] [e0, .inr (2, [.ref 2, .ref 6, .ref 8, .ref 9]), .inr (5, [.ref 3, .ref 4, .ref 5]), .inl (1, 12, .inl (ha 0)), .inl (0, 12, .inl (ha 1)), .inl (0, 12, .inl (ha 2)), .inr (0, [.ref 7]), .inl (0, 72, .inl (ha 3)), .inl (0, 12, .inl (ha 4)), .inr (4, [.ref 10, .ref 11, .ref 12, .ref 13, .ref 14, .int hz]), .inl (0, 64, .inl (ha 5)), .inl (0, 64, .inl (ha 6)), .inl (0, 64, .inl (ha 7)), .inl (0, 64, .inl (ha 8)), .inl (0, 64, .inl (ha 9)), .inr (1, [.ref 1, .ref 16, .ref 18, .ref 19, .ref 20, .ref 21, .ref 22, .ref 26, .int (s1 8), .int (s1 9), .int (s1 10), .float t1, .int (s1 12), .int (s1 13), .int (s1 14), .int (s1 15), .int (s1 16), .int (s1 17), .int (s1 18), .int (s1 19)]), .inr (0, [.ref 17]), .inl (0, 72, .inl (a1 0)), .inl (0, 12, .inl (a1 1)), .inl (0, 8, .inl (a1 2)), .inl (0, 3, .inl (a1 3)), .inl (0, 64, .inl (a1 4)), .inr (3, [.ref 23, .ref 24, .ref 25, .int (s1 20)]), .inl (0, 306, .inl (a1 5)), .inl (0, 306, .inl (a1 6)), .inl (0, 3, .inl (a1 7)), .inr (6, [.int (s1 21), .int (s1 22), .int (s1 23), .int (s1 24), .int (s1 25)]), .inr (1, [.null, .ref 28, .ref 30, .ref 31, .ref 32, .ref 33, .ref 34, .null, .int 0, .int 0, .int 0, .float 0, .int 0, .int 0, .int 0, .int 0, .int 0, .int 0, .int 0, .int 0]), .inr (0, [.ref 29]), .inl (0, 72, am_z 0), .inl (0, 12, am_z 0), .inl (0, 8, am_z 0), .inl (0, 3, am_z 0), .inl (0, 64, am_z 0), .inr (3, [.ref 35, .ref 36, .ref 37, .int 0]), .inl (0, 306, am_z 0), .inl (0, 306, am_z 0), .inl (0, 3, am_z 0), .inr (6, [.int 0, .int 0, .int 0, .int 0, .int 0])] K := by
  refine ⟨rfl, fun P hm hP => ?_⟩
  show P 0 [some (.ref 38)] [] _ 0 0
  refine s_aload_n hP t61_0 rfl ?_
  refine s_objinit hP t61_1 rfl ?_
  refine s_return_ hP t61_4 rfl ?_
  exact k
set_option maxHeartbeats 8000000 in
theorem sp10_2 {d : Nat} {K : am_K} {e0 : am_E} {ha : Nat → Nat → Int32} {hz : Int32} {a1 : Nat → Nat → Int32} {s1 : Nat → Int32} {t1 : UInt32} (k : ∀ g u v : Nat → Int32, (∀ j, j < 72 → g j = 65535) → (∀ j, j < 12 → u j = 0) → (∀ j, j < 8 → v j = 0) → K none (am_W2 e0 ha hz a1 s1 t1 (mc_a0 (fun _ _ => 0) g u v) (mc_s0 (fun _ => 0)) FP.fconst0)) : am_Run (d + 4) 10 [.ref 27, .ref 1] [e0, .inr (2, [.ref 2, .ref 6, .ref 8, .ref 9]), .inr (5, [.ref 3, .ref 4, .ref 5]), .inl (1, 12, .inl (ha 0)), .inl (0, 12, .inl (ha 1)), .inl (0, 12, .inl (ha 2)), .inr (0, [.ref 7]), .inl (0, 72, .inl (ha 3)), .inl (0, 12, .inl (ha 4)), .inr (4, [.ref 10, .ref 11, .ref 12, .ref 13, .ref 14, .int hz]), .inl (0, 64, .inl (ha 5)), .inl (0, 64, .inl (ha 6)), .inl (0, 64, .inl (ha 7)), .inl (0, 64, .inl (ha 8)), .inl (0, 64, .inl (ha 9)), .inr (1, [.ref 1, .ref 16, .ref 18, .ref 19, .ref 20, .ref 21, .ref 22, .ref 26, .int (s1 8), .int (s1 9), .int (s1 10), .float t1, .int (s1 12), .int (s1 13), .int (s1 14), .int (s1 15), .int (s1 16), .int (s1 17), .int (s1 18), .int (s1 19)]), .inr (0, [.ref 17]), .inl (0, 72, .inl (a1 0)), .inl (0, 12, .inl (a1 1)), .inl (0, 8, .inl (a1 2)), .inl (0, 3, .inl (a1 3)), .inl (0, 64, .inl (a1 4)), .inr (3, [.ref 23, .ref 24, .ref 25, .int (s1 20)]), .inl (0, 306, .inl (a1 5)), .inl (0, 306, .inl (a1 6)), .inl (0, 3, .inl (a1 7)), .inr (6, [.int (s1 21), .int (s1 22), .int (s1 23), .int (s1 24), .int (s1 25)]), .inr (1, [.null, .null, .null, .null, .null, .null, .null, .null, .int 0, .int 0, .int 0, .float 0, .int 0, .int 0, .int 0, .int 0, .int 0, .int 0, .int 0, .int 0])] K := by
  refine ⟨rfl, fun P hm hP => ?_⟩
  show P 0 [some (.ref 27), some (.ref 1)] [] _ 11 784
  refine s_aload_n hP t10_0 rfl ?_
  refine s_objinit hP t10_1 rfl ?_
  refine s_aload_n hP t10_4 rfl ?_
  refine s_new (bc' := 10) (bs' := 783) hP t10_5 rfl rfl rfl ?_
  show P 8 [some (.ref 27), some (.ref 1)] [.ref 28, .ref 27] [e0, .inr (2, [.ref 2, .ref 6, .ref 8, .ref 9]), .inr (5, [.ref 3, .ref 4, .ref 5]), .inl (1, 12, .inl (ha 0)), .inl (0, 12, .inl (ha 1)), .inl (0, 12, .inl (ha 2)), .inr (0, [.ref 7]), .inl (0, 72, .inl (ha 3)), .inl (0, 12, .inl (ha 4)), .inr (4, [.ref 10, .ref 11, .ref 12, .ref 13, .ref 14, .int hz]), .inl (0, 64, .inl (ha 5)), .inl (0, 64, .inl (ha 6)), .inl (0, 64, .inl (ha 7)), .inl (0, 64, .inl (ha 8)), .inl (0, 64, .inl (ha 9)), .inr (1, [.ref 1, .ref 16, .ref 18, .ref 19, .ref 20, .ref 21, .ref 22, .ref 26, .int (s1 8), .int (s1 9), .int (s1 10), .float t1, .int (s1 12), .int (s1 13), .int (s1 14), .int (s1 15), .int (s1 16), .int (s1 17), .int (s1 18), .int (s1 19)]), .inr (0, [.ref 17]), .inl (0, 72, .inl (a1 0)), .inl (0, 12, .inl (a1 1)), .inl (0, 8, .inl (a1 2)), .inl (0, 3, .inl (a1 3)), .inl (0, 64, .inl (a1 4)), .inr (3, [.ref 23, .ref 24, .ref 25, .int (s1 20)]), .inl (0, 306, .inl (a1 5)), .inl (0, 306, .inl (a1 6)), .inl (0, 3, .inl (a1 7)), .inr (6, [.int (s1 21), .int (s1 22), .int (s1 23), .int (s1 24), .int (s1 25)]), .inr (1, [.null, .null, .null, .null, .null, .null, .null, .null, .int 0, .int 0, .int 0, .float 0, .int 0, .int 0, .int 0, .int 0, .int 0, .int 0, .int 0, .int 0]), .inr (0, [.null])] 10 783
  refine s_dup hP t10_8 rfl ?_
  show P 9 [some (.ref 27), some (.ref 1)] [.ref 28, .ref 28, .ref 27] [e0, .inr (2, [.ref 2, .ref 6, .ref 8, .ref 9]), .inr (5, [.ref 3, .ref 4, .ref 5]), .inl (1, 12, .inl (ha 0)), .inl (0, 12, .inl (ha 1)), .inl (0, 12, .inl (ha 2)), .inr (0, [.ref 7]), .inl (0, 72, .inl (ha 3)), .inl (0, 12, .inl (ha 4)), .inr (4, [.ref 10, .ref 11, .ref 12, .ref 13, .ref 14, .int hz]), .inl (0, 64, .inl (ha 5)), .inl (0, 64, .inl (ha 6)), .inl (0, 64, .inl (ha 7)), .inl (0, 64, .inl (ha 8)), .inl (0, 64, .inl (ha 9)), .inr (1, [.ref 1, .ref 16, .ref 18, .ref 19, .ref 20, .ref 21, .ref 22, .ref 26, .int (s1 8), .int (s1 9), .int (s1 10), .float t1, .int (s1 12), .int (s1 13), .int (s1 14), .int (s1 15), .int (s1 16), .int (s1 17), .int (s1 18), .int (s1 19)]), .inr (0, [.ref 17]), .inl (0, 72, .inl (a1 0)), .inl (0, 12, .inl (a1 1)), .inl (0, 8, .inl (a1 2)), .inl (0, 3, .inl (a1 3)), .inl (0, 64, .inl (a1 4)), .inr (3, [.ref 23, .ref 24, .ref 25, .int (s1 20)]), .inl (0, 306, .inl (a1 5)), .inl (0, 306, .inl (a1 6)), .inl (0, 3, .inl (a1 7)), .inr (6, [.int (s1 21), .int (s1 22), .int (s1 23), .int (s1 24), .int (s1 25)]), .inr (1, [.null, .null, .null, .null, .null, .null, .null, .null, .int 0, .int 0, .int 0, .float 0, .int 0, .int 0, .int 0, .int 0, .int 0, .int 0, .int 0, .int 0]), .inr (0, [.null])] 10 783
  refine s_invokespecial (bc' := 9) (bs' := 711) hP t10_9 rfl rfl rfl rfl rfl ?_
  refine sp0_2 ?_
  show P 12 [some (.ref 27), some (.ref 1)] [.ref 28, .ref 27] [e0, .inr (2, [.ref 2, .ref 6, .ref 8, .ref 9]), .inr (5, [.ref 3, .ref 4, .ref 5]), .inl (1, 12, .inl (ha 0)), .inl (0, 12, .inl (ha 1)), .inl (0, 12, .inl (ha 2)), .inr (0, [.ref 7]), .inl (0, 72, .inl (ha 3)), .inl (0, 12, .inl (ha 4)), .inr (4, [.ref 10, .ref 11, .ref 12, .ref 13, .ref 14, .int hz]), .inl (0, 64, .inl (ha 5)), .inl (0, 64, .inl (ha 6)), .inl (0, 64, .inl (ha 7)), .inl (0, 64, .inl (ha 8)), .inl (0, 64, .inl (ha 9)), .inr (1, [.ref 1, .ref 16, .ref 18, .ref 19, .ref 20, .ref 21, .ref 22, .ref 26, .int (s1 8), .int (s1 9), .int (s1 10), .float t1, .int (s1 12), .int (s1 13), .int (s1 14), .int (s1 15), .int (s1 16), .int (s1 17), .int (s1 18), .int (s1 19)]), .inr (0, [.ref 17]), .inl (0, 72, .inl (a1 0)), .inl (0, 12, .inl (a1 1)), .inl (0, 8, .inl (a1 2)), .inl (0, 3, .inl (a1 3)), .inl (0, 64, .inl (a1 4)), .inr (3, [.ref 23, .ref 24, .ref 25, .int (s1 20)]), .inl (0, 306, .inl (a1 5)), .inl (0, 306, .inl (a1 6)), .inl (0, 3, .inl (a1 7)), .inr (6, [.int (s1 21), .int (s1 22), .int (s1 23), .int (s1 24), .int (s1 25)]), .inr (1, [.null, .null, .null, .null, .null, .null, .null, .null, .int 0, .int 0, .int 0, .float 0, .int 0, .int 0, .int 0, .int 0, .int 0, .int 0, .int 0, .int 0]), .inr (0, [.ref 29]), .inl (0, 72, am_z 0)] 9 711
  refine s_putfield hP t10_12 rfl rfl rfl rfl ?_
  refine s_aload_n hP t10_15 rfl ?_
  refine s_bipush (v := 12) hP t10_16 (by decide) ?_
  refine s_newarray (N := 12) (bc' := 8) (bs' := 699) hP t10_18 rfl rfl rfl rfl rfl ?_
  show P 20 [some (.ref 27), some (.ref 1)] [.ref 30, .ref 27] [e0, .inr (2, [.ref 2, .ref 6, .ref 8, .ref 9]), .inr (5, [.ref 3, .ref 4, .ref 5]), .inl (1, 12, .inl (ha 0)), .inl (0, 12, .inl (ha 1)), .inl (0, 12, .inl (ha 2)), .inr (0, [.ref 7]), .inl (0, 72, .inl (ha 3)), .inl (0, 12, .inl (ha 4)), .inr (4, [.ref 10, .ref 11, .ref 12, .ref 13, .ref 14, .int hz]), .inl (0, 64, .inl (ha 5)), .inl (0, 64, .inl (ha 6)), .inl (0, 64, .inl (ha 7)), .inl (0, 64, .inl (ha 8)), .inl (0, 64, .inl (ha 9)), .inr (1, [.ref 1, .ref 16, .ref 18, .ref 19, .ref 20, .ref 21, .ref 22, .ref 26, .int (s1 8), .int (s1 9), .int (s1 10), .float t1, .int (s1 12), .int (s1 13), .int (s1 14), .int (s1 15), .int (s1 16), .int (s1 17), .int (s1 18), .int (s1 19)]), .inr (0, [.ref 17]), .inl (0, 72, .inl (a1 0)), .inl (0, 12, .inl (a1 1)), .inl (0, 8, .inl (a1 2)), .inl (0, 3, .inl (a1 3)), .inl (0, 64, .inl (a1 4)), .inr (3, [.ref 23, .ref 24, .ref 25, .int (s1 20)]), .inl (0, 306, .inl (a1 5)), .inl (0, 306, .inl (a1 6)), .inl (0, 3, .inl (a1 7)), .inr (6, [.int (s1 21), .int (s1 22), .int (s1 23), .int (s1 24), .int (s1 25)]), .inr (1, [.null, .ref 28, .null, .null, .null, .null, .null, .null, .int 0, .int 0, .int 0, .float 0, .int 0, .int 0, .int 0, .int 0, .int 0, .int 0, .int 0, .int 0]), .inr (0, [.ref 29]), .inl (0, 72, am_z 0), .inl (0, 12, am_z 0)] 8 699
  refine s_putfield hP t10_20 rfl rfl rfl rfl ?_
  refine s_aload_n hP t10_23 rfl ?_
  refine s_bipush (v := 8) hP t10_24 (by decide) ?_
  refine s_newarray (N := 8) (bc' := 7) (bs' := 691) hP t10_26 rfl rfl rfl rfl rfl ?_
  show P 28 [some (.ref 27), some (.ref 1)] [.ref 31, .ref 27] [e0, .inr (2, [.ref 2, .ref 6, .ref 8, .ref 9]), .inr (5, [.ref 3, .ref 4, .ref 5]), .inl (1, 12, .inl (ha 0)), .inl (0, 12, .inl (ha 1)), .inl (0, 12, .inl (ha 2)), .inr (0, [.ref 7]), .inl (0, 72, .inl (ha 3)), .inl (0, 12, .inl (ha 4)), .inr (4, [.ref 10, .ref 11, .ref 12, .ref 13, .ref 14, .int hz]), .inl (0, 64, .inl (ha 5)), .inl (0, 64, .inl (ha 6)), .inl (0, 64, .inl (ha 7)), .inl (0, 64, .inl (ha 8)), .inl (0, 64, .inl (ha 9)), .inr (1, [.ref 1, .ref 16, .ref 18, .ref 19, .ref 20, .ref 21, .ref 22, .ref 26, .int (s1 8), .int (s1 9), .int (s1 10), .float t1, .int (s1 12), .int (s1 13), .int (s1 14), .int (s1 15), .int (s1 16), .int (s1 17), .int (s1 18), .int (s1 19)]), .inr (0, [.ref 17]), .inl (0, 72, .inl (a1 0)), .inl (0, 12, .inl (a1 1)), .inl (0, 8, .inl (a1 2)), .inl (0, 3, .inl (a1 3)), .inl (0, 64, .inl (a1 4)), .inr (3, [.ref 23, .ref 24, .ref 25, .int (s1 20)]), .inl (0, 306, .inl (a1 5)), .inl (0, 306, .inl (a1 6)), .inl (0, 3, .inl (a1 7)), .inr (6, [.int (s1 21), .int (s1 22), .int (s1 23), .int (s1 24), .int (s1 25)]), .inr (1, [.null, .ref 28, .ref 30, .null, .null, .null, .null, .null, .int 0, .int 0, .int 0, .float 0, .int 0, .int 0, .int 0, .int 0, .int 0, .int 0, .int 0, .int 0]), .inr (0, [.ref 29]), .inl (0, 72, am_z 0), .inl (0, 12, am_z 0), .inl (0, 8, am_z 0)] 7 691
  refine s_putfield hP t10_28 rfl rfl rfl rfl ?_
  refine s_aload_n hP t10_31 rfl ?_
  refine s_iconst (v := 3) hP t10_32 (by decide) ?_
  refine s_newarray (N := 3) (bc' := 6) (bs' := 688) hP t10_33 rfl rfl rfl rfl rfl ?_
  show P 35 [some (.ref 27), some (.ref 1)] [.ref 32, .ref 27] [e0, .inr (2, [.ref 2, .ref 6, .ref 8, .ref 9]), .inr (5, [.ref 3, .ref 4, .ref 5]), .inl (1, 12, .inl (ha 0)), .inl (0, 12, .inl (ha 1)), .inl (0, 12, .inl (ha 2)), .inr (0, [.ref 7]), .inl (0, 72, .inl (ha 3)), .inl (0, 12, .inl (ha 4)), .inr (4, [.ref 10, .ref 11, .ref 12, .ref 13, .ref 14, .int hz]), .inl (0, 64, .inl (ha 5)), .inl (0, 64, .inl (ha 6)), .inl (0, 64, .inl (ha 7)), .inl (0, 64, .inl (ha 8)), .inl (0, 64, .inl (ha 9)), .inr (1, [.ref 1, .ref 16, .ref 18, .ref 19, .ref 20, .ref 21, .ref 22, .ref 26, .int (s1 8), .int (s1 9), .int (s1 10), .float t1, .int (s1 12), .int (s1 13), .int (s1 14), .int (s1 15), .int (s1 16), .int (s1 17), .int (s1 18), .int (s1 19)]), .inr (0, [.ref 17]), .inl (0, 72, .inl (a1 0)), .inl (0, 12, .inl (a1 1)), .inl (0, 8, .inl (a1 2)), .inl (0, 3, .inl (a1 3)), .inl (0, 64, .inl (a1 4)), .inr (3, [.ref 23, .ref 24, .ref 25, .int (s1 20)]), .inl (0, 306, .inl (a1 5)), .inl (0, 306, .inl (a1 6)), .inl (0, 3, .inl (a1 7)), .inr (6, [.int (s1 21), .int (s1 22), .int (s1 23), .int (s1 24), .int (s1 25)]), .inr (1, [.null, .ref 28, .ref 30, .ref 31, .null, .null, .null, .null, .int 0, .int 0, .int 0, .float 0, .int 0, .int 0, .int 0, .int 0, .int 0, .int 0, .int 0, .int 0]), .inr (0, [.ref 29]), .inl (0, 72, am_z 0), .inl (0, 12, am_z 0), .inl (0, 8, am_z 0), .inl (0, 3, am_z 0)] 6 688
  refine s_putfield hP t10_35 rfl rfl rfl rfl ?_
  refine s_aload_n hP t10_38 rfl ?_
  refine s_bipush (v := 64) hP t10_39 (by decide) ?_
  refine s_newarray (N := 64) (bc' := 5) (bs' := 624) hP t10_41 rfl rfl rfl rfl rfl ?_
  show P 43 [some (.ref 27), some (.ref 1)] [.ref 33, .ref 27] [e0, .inr (2, [.ref 2, .ref 6, .ref 8, .ref 9]), .inr (5, [.ref 3, .ref 4, .ref 5]), .inl (1, 12, .inl (ha 0)), .inl (0, 12, .inl (ha 1)), .inl (0, 12, .inl (ha 2)), .inr (0, [.ref 7]), .inl (0, 72, .inl (ha 3)), .inl (0, 12, .inl (ha 4)), .inr (4, [.ref 10, .ref 11, .ref 12, .ref 13, .ref 14, .int hz]), .inl (0, 64, .inl (ha 5)), .inl (0, 64, .inl (ha 6)), .inl (0, 64, .inl (ha 7)), .inl (0, 64, .inl (ha 8)), .inl (0, 64, .inl (ha 9)), .inr (1, [.ref 1, .ref 16, .ref 18, .ref 19, .ref 20, .ref 21, .ref 22, .ref 26, .int (s1 8), .int (s1 9), .int (s1 10), .float t1, .int (s1 12), .int (s1 13), .int (s1 14), .int (s1 15), .int (s1 16), .int (s1 17), .int (s1 18), .int (s1 19)]), .inr (0, [.ref 17]), .inl (0, 72, .inl (a1 0)), .inl (0, 12, .inl (a1 1)), .inl (0, 8, .inl (a1 2)), .inl (0, 3, .inl (a1 3)), .inl (0, 64, .inl (a1 4)), .inr (3, [.ref 23, .ref 24, .ref 25, .int (s1 20)]), .inl (0, 306, .inl (a1 5)), .inl (0, 306, .inl (a1 6)), .inl (0, 3, .inl (a1 7)), .inr (6, [.int (s1 21), .int (s1 22), .int (s1 23), .int (s1 24), .int (s1 25)]), .inr (1, [.null, .ref 28, .ref 30, .ref 31, .ref 32, .null, .null, .null, .int 0, .int 0, .int 0, .float 0, .int 0, .int 0, .int 0, .int 0, .int 0, .int 0, .int 0, .int 0]), .inr (0, [.ref 29]), .inl (0, 72, am_z 0), .inl (0, 12, am_z 0), .inl (0, 8, am_z 0), .inl (0, 3, am_z 0), .inl (0, 64, am_z 0)] 5 624
  refine s_putfield hP t10_43 rfl rfl rfl rfl ?_
  refine s_aload_n hP t10_46 rfl ?_
  refine s_new (bc' := 4) (bs' := 620) hP t10_47 rfl rfl rfl ?_
  show P 50 [some (.ref 27), some (.ref 1)] [.ref 34, .ref 27] [e0, .inr (2, [.ref 2, .ref 6, .ref 8, .ref 9]), .inr (5, [.ref 3, .ref 4, .ref 5]), .inl (1, 12, .inl (ha 0)), .inl (0, 12, .inl (ha 1)), .inl (0, 12, .inl (ha 2)), .inr (0, [.ref 7]), .inl (0, 72, .inl (ha 3)), .inl (0, 12, .inl (ha 4)), .inr (4, [.ref 10, .ref 11, .ref 12, .ref 13, .ref 14, .int hz]), .inl (0, 64, .inl (ha 5)), .inl (0, 64, .inl (ha 6)), .inl (0, 64, .inl (ha 7)), .inl (0, 64, .inl (ha 8)), .inl (0, 64, .inl (ha 9)), .inr (1, [.ref 1, .ref 16, .ref 18, .ref 19, .ref 20, .ref 21, .ref 22, .ref 26, .int (s1 8), .int (s1 9), .int (s1 10), .float t1, .int (s1 12), .int (s1 13), .int (s1 14), .int (s1 15), .int (s1 16), .int (s1 17), .int (s1 18), .int (s1 19)]), .inr (0, [.ref 17]), .inl (0, 72, .inl (a1 0)), .inl (0, 12, .inl (a1 1)), .inl (0, 8, .inl (a1 2)), .inl (0, 3, .inl (a1 3)), .inl (0, 64, .inl (a1 4)), .inr (3, [.ref 23, .ref 24, .ref 25, .int (s1 20)]), .inl (0, 306, .inl (a1 5)), .inl (0, 306, .inl (a1 6)), .inl (0, 3, .inl (a1 7)), .inr (6, [.int (s1 21), .int (s1 22), .int (s1 23), .int (s1 24), .int (s1 25)]), .inr (1, [.null, .ref 28, .ref 30, .ref 31, .ref 32, .ref 33, .null, .null, .int 0, .int 0, .int 0, .float 0, .int 0, .int 0, .int 0, .int 0, .int 0, .int 0, .int 0, .int 0]), .inr (0, [.ref 29]), .inl (0, 72, am_z 0), .inl (0, 12, am_z 0), .inl (0, 8, am_z 0), .inl (0, 3, am_z 0), .inl (0, 64, am_z 0), .inr (3, [.null, .null, .null, .int 0])] 4 620
  refine s_dup hP t10_50 rfl ?_
  show P 51 [some (.ref 27), some (.ref 1)] [.ref 34, .ref 34, .ref 27] [e0, .inr (2, [.ref 2, .ref 6, .ref 8, .ref 9]), .inr (5, [.ref 3, .ref 4, .ref 5]), .inl (1, 12, .inl (ha 0)), .inl (0, 12, .inl (ha 1)), .inl (0, 12, .inl (ha 2)), .inr (0, [.ref 7]), .inl (0, 72, .inl (ha 3)), .inl (0, 12, .inl (ha 4)), .inr (4, [.ref 10, .ref 11, .ref 12, .ref 13, .ref 14, .int hz]), .inl (0, 64, .inl (ha 5)), .inl (0, 64, .inl (ha 6)), .inl (0, 64, .inl (ha 7)), .inl (0, 64, .inl (ha 8)), .inl (0, 64, .inl (ha 9)), .inr (1, [.ref 1, .ref 16, .ref 18, .ref 19, .ref 20, .ref 21, .ref 22, .ref 26, .int (s1 8), .int (s1 9), .int (s1 10), .float t1, .int (s1 12), .int (s1 13), .int (s1 14), .int (s1 15), .int (s1 16), .int (s1 17), .int (s1 18), .int (s1 19)]), .inr (0, [.ref 17]), .inl (0, 72, .inl (a1 0)), .inl (0, 12, .inl (a1 1)), .inl (0, 8, .inl (a1 2)), .inl (0, 3, .inl (a1 3)), .inl (0, 64, .inl (a1 4)), .inr (3, [.ref 23, .ref 24, .ref 25, .int (s1 20)]), .inl (0, 306, .inl (a1 5)), .inl (0, 306, .inl (a1 6)), .inl (0, 3, .inl (a1 7)), .inr (6, [.int (s1 21), .int (s1 22), .int (s1 23), .int (s1 24), .int (s1 25)]), .inr (1, [.null, .ref 28, .ref 30, .ref 31, .ref 32, .ref 33, .null, .null, .int 0, .int 0, .int 0, .float 0, .int 0, .int 0, .int 0, .int 0, .int 0, .int 0, .int 0, .int 0]), .inr (0, [.ref 29]), .inl (0, 72, am_z 0), .inl (0, 12, am_z 0), .inl (0, 8, am_z 0), .inl (0, 3, am_z 0), .inl (0, 64, am_z 0), .inr (3, [.null, .null, .null, .int 0])] 4 620
  refine s_invokespecial (bc' := 1) (bs' := 5) hP t10_51 rfl rfl rfl rfl rfl ?_
  refine sp41_2 ?_
  show P 54 [some (.ref 27), some (.ref 1)] [.ref 34, .ref 27] [e0, .inr (2, [.ref 2, .ref 6, .ref 8, .ref 9]), .inr (5, [.ref 3, .ref 4, .ref 5]), .inl (1, 12, .inl (ha 0)), .inl (0, 12, .inl (ha 1)), .inl (0, 12, .inl (ha 2)), .inr (0, [.ref 7]), .inl (0, 72, .inl (ha 3)), .inl (0, 12, .inl (ha 4)), .inr (4, [.ref 10, .ref 11, .ref 12, .ref 13, .ref 14, .int hz]), .inl (0, 64, .inl (ha 5)), .inl (0, 64, .inl (ha 6)), .inl (0, 64, .inl (ha 7)), .inl (0, 64, .inl (ha 8)), .inl (0, 64, .inl (ha 9)), .inr (1, [.ref 1, .ref 16, .ref 18, .ref 19, .ref 20, .ref 21, .ref 22, .ref 26, .int (s1 8), .int (s1 9), .int (s1 10), .float t1, .int (s1 12), .int (s1 13), .int (s1 14), .int (s1 15), .int (s1 16), .int (s1 17), .int (s1 18), .int (s1 19)]), .inr (0, [.ref 17]), .inl (0, 72, .inl (a1 0)), .inl (0, 12, .inl (a1 1)), .inl (0, 8, .inl (a1 2)), .inl (0, 3, .inl (a1 3)), .inl (0, 64, .inl (a1 4)), .inr (3, [.ref 23, .ref 24, .ref 25, .int (s1 20)]), .inl (0, 306, .inl (a1 5)), .inl (0, 306, .inl (a1 6)), .inl (0, 3, .inl (a1 7)), .inr (6, [.int (s1 21), .int (s1 22), .int (s1 23), .int (s1 24), .int (s1 25)]), .inr (1, [.null, .ref 28, .ref 30, .ref 31, .ref 32, .ref 33, .null, .null, .int 0, .int 0, .int 0, .float 0, .int 0, .int 0, .int 0, .int 0, .int 0, .int 0, .int 0, .int 0]), .inr (0, [.ref 29]), .inl (0, 72, am_z 0), .inl (0, 12, am_z 0), .inl (0, 8, am_z 0), .inl (0, 3, am_z 0), .inl (0, 64, am_z 0), .inr (3, [.ref 35, .ref 36, .ref 37, .int 0]), .inl (0, 306, am_z 0), .inl (0, 306, am_z 0), .inl (0, 3, am_z 0)] 1 5
  refine s_putfield hP t10_54 rfl rfl rfl rfl ?_
  refine s_aload_n hP t10_57 rfl ?_
  refine s_new (bc' := 0) (bs' := 0) hP t10_58 rfl rfl rfl ?_
  show P 61 [some (.ref 27), some (.ref 1)] [.ref 38, .ref 27] [e0, .inr (2, [.ref 2, .ref 6, .ref 8, .ref 9]), .inr (5, [.ref 3, .ref 4, .ref 5]), .inl (1, 12, .inl (ha 0)), .inl (0, 12, .inl (ha 1)), .inl (0, 12, .inl (ha 2)), .inr (0, [.ref 7]), .inl (0, 72, .inl (ha 3)), .inl (0, 12, .inl (ha 4)), .inr (4, [.ref 10, .ref 11, .ref 12, .ref 13, .ref 14, .int hz]), .inl (0, 64, .inl (ha 5)), .inl (0, 64, .inl (ha 6)), .inl (0, 64, .inl (ha 7)), .inl (0, 64, .inl (ha 8)), .inl (0, 64, .inl (ha 9)), .inr (1, [.ref 1, .ref 16, .ref 18, .ref 19, .ref 20, .ref 21, .ref 22, .ref 26, .int (s1 8), .int (s1 9), .int (s1 10), .float t1, .int (s1 12), .int (s1 13), .int (s1 14), .int (s1 15), .int (s1 16), .int (s1 17), .int (s1 18), .int (s1 19)]), .inr (0, [.ref 17]), .inl (0, 72, .inl (a1 0)), .inl (0, 12, .inl (a1 1)), .inl (0, 8, .inl (a1 2)), .inl (0, 3, .inl (a1 3)), .inl (0, 64, .inl (a1 4)), .inr (3, [.ref 23, .ref 24, .ref 25, .int (s1 20)]), .inl (0, 306, .inl (a1 5)), .inl (0, 306, .inl (a1 6)), .inl (0, 3, .inl (a1 7)), .inr (6, [.int (s1 21), .int (s1 22), .int (s1 23), .int (s1 24), .int (s1 25)]), .inr (1, [.null, .ref 28, .ref 30, .ref 31, .ref 32, .ref 33, .ref 34, .null, .int 0, .int 0, .int 0, .float 0, .int 0, .int 0, .int 0, .int 0, .int 0, .int 0, .int 0, .int 0]), .inr (0, [.ref 29]), .inl (0, 72, am_z 0), .inl (0, 12, am_z 0), .inl (0, 8, am_z 0), .inl (0, 3, am_z 0), .inl (0, 64, am_z 0), .inr (3, [.ref 35, .ref 36, .ref 37, .int 0]), .inl (0, 306, am_z 0), .inl (0, 306, am_z 0), .inl (0, 3, am_z 0), .inr (6, [.int 0, .int 0, .int 0, .int 0, .int 0])] 0 0
  refine s_dup hP t10_61 rfl ?_
  show P 62 [some (.ref 27), some (.ref 1)] [.ref 38, .ref 38, .ref 27] [e0, .inr (2, [.ref 2, .ref 6, .ref 8, .ref 9]), .inr (5, [.ref 3, .ref 4, .ref 5]), .inl (1, 12, .inl (ha 0)), .inl (0, 12, .inl (ha 1)), .inl (0, 12, .inl (ha 2)), .inr (0, [.ref 7]), .inl (0, 72, .inl (ha 3)), .inl (0, 12, .inl (ha 4)), .inr (4, [.ref 10, .ref 11, .ref 12, .ref 13, .ref 14, .int hz]), .inl (0, 64, .inl (ha 5)), .inl (0, 64, .inl (ha 6)), .inl (0, 64, .inl (ha 7)), .inl (0, 64, .inl (ha 8)), .inl (0, 64, .inl (ha 9)), .inr (1, [.ref 1, .ref 16, .ref 18, .ref 19, .ref 20, .ref 21, .ref 22, .ref 26, .int (s1 8), .int (s1 9), .int (s1 10), .float t1, .int (s1 12), .int (s1 13), .int (s1 14), .int (s1 15), .int (s1 16), .int (s1 17), .int (s1 18), .int (s1 19)]), .inr (0, [.ref 17]), .inl (0, 72, .inl (a1 0)), .inl (0, 12, .inl (a1 1)), .inl (0, 8, .inl (a1 2)), .inl (0, 3, .inl (a1 3)), .inl (0, 64, .inl (a1 4)), .inr (3, [.ref 23, .ref 24, .ref 25, .int (s1 20)]), .inl (0, 306, .inl (a1 5)), .inl (0, 306, .inl (a1 6)), .inl (0, 3, .inl (a1 7)), .inr (6, [.int (s1 21), .int (s1 22), .int (s1 23), .int (s1 24), .int (s1 25)]), .inr (1, [.null, .ref 28, .ref 30, .ref 31, .ref 32, .ref 33, .ref 34, .null, .int 0, .int 0, .int 0, .float 0, .int 0, .int 0, .int 0, .int 0, .int 0, .int 0, .int 0, .int 0]), .inr (0, [.ref 29]), .inl (0, 72, am_z 0), .inl (0, 12, am_z 0), .inl (0, 8, am_z 0), .inl (0, 3, am_z 0), .inl (0, 64, am_z 0), .inr (3, [.ref 35, .ref 36, .ref 37, .int 0]), .inl (0, 306, am_z 0), .inl (0, 306, am_z 0), .inl (0, 3, am_z 0), .inr (6, [.int 0, .int 0, .int 0, .int 0, .int 0])] 0 0
  refine s_invokespecial (bc' := 0) (bs' := 0) hP t10_62 rfl rfl rfl rfl rfl ?_
  refine sp61_2 ?_
  show P 65 [some (.ref 27), some (.ref 1)] [.ref 38, .ref 27] [e0, .inr (2, [.ref 2, .ref 6, .ref 8, .ref 9]), .inr (5, [.ref 3, .ref 4, .ref 5]), .inl (1, 12, .inl (ha 0)), .inl (0, 12, .inl (ha 1)), .inl (0, 12, .inl (ha 2)), .inr (0, [.ref 7]), .inl (0, 72, .inl (ha 3)), .inl (0, 12, .inl (ha 4)), .inr (4, [.ref 10, .ref 11, .ref 12, .ref 13, .ref 14, .int hz]), .inl (0, 64, .inl (ha 5)), .inl (0, 64, .inl (ha 6)), .inl (0, 64, .inl (ha 7)), .inl (0, 64, .inl (ha 8)), .inl (0, 64, .inl (ha 9)), .inr (1, [.ref 1, .ref 16, .ref 18, .ref 19, .ref 20, .ref 21, .ref 22, .ref 26, .int (s1 8), .int (s1 9), .int (s1 10), .float t1, .int (s1 12), .int (s1 13), .int (s1 14), .int (s1 15), .int (s1 16), .int (s1 17), .int (s1 18), .int (s1 19)]), .inr (0, [.ref 17]), .inl (0, 72, .inl (a1 0)), .inl (0, 12, .inl (a1 1)), .inl (0, 8, .inl (a1 2)), .inl (0, 3, .inl (a1 3)), .inl (0, 64, .inl (a1 4)), .inr (3, [.ref 23, .ref 24, .ref 25, .int (s1 20)]), .inl (0, 306, .inl (a1 5)), .inl (0, 306, .inl (a1 6)), .inl (0, 3, .inl (a1 7)), .inr (6, [.int (s1 21), .int (s1 22), .int (s1 23), .int (s1 24), .int (s1 25)]), .inr (1, [.null, .ref 28, .ref 30, .ref 31, .ref 32, .ref 33, .ref 34, .null, .int 0, .int 0, .int 0, .float 0, .int 0, .int 0, .int 0, .int 0, .int 0, .int 0, .int 0, .int 0]), .inr (0, [.ref 29]), .inl (0, 72, am_z 0), .inl (0, 12, am_z 0), .inl (0, 8, am_z 0), .inl (0, 3, am_z 0), .inl (0, 64, am_z 0), .inr (3, [.ref 35, .ref 36, .ref 37, .int 0]), .inl (0, 306, am_z 0), .inl (0, 306, am_z 0), .inl (0, 3, am_z 0), .inr (6, [.int 0, .int 0, .int 0, .int 0, .int 0])] 0 0
  refine s_putfield hP t10_65 rfl rfl rfl rfl ?_
  refine s_aload_n hP t10_68 rfl ?_
  refine s_aload_n hP t10_69 rfl ?_
  refine s_putfield hP t10_70 rfl rfl rfl rfl ?_
  refine s_aload_n hP t10_73 rfl ?_
  show P 74 [some (.ref 27), some (.ref 1)] [.ref 27] [e0, .inr (2, [.ref 2, .ref 6, .ref 8, .ref 9]), .inr (5, [.ref 3, .ref 4, .ref 5]), .inl (1, 12, .inl (ha 0)), .inl (0, 12, .inl (ha 1)), .inl (0, 12, .inl (ha 2)), .inr (0, [.ref 7]), .inl (0, 72, .inl (ha 3)), .inl (0, 12, .inl (ha 4)), .inr (4, [.ref 10, .ref 11, .ref 12, .ref 13, .ref 14, .int hz]), .inl (0, 64, .inl (ha 5)), .inl (0, 64, .inl (ha 6)), .inl (0, 64, .inl (ha 7)), .inl (0, 64, .inl (ha 8)), .inl (0, 64, .inl (ha 9)), .inr (1, [.ref 1, .ref 16, .ref 18, .ref 19, .ref 20, .ref 21, .ref 22, .ref 26, .int (s1 8), .int (s1 9), .int (s1 10), .float t1, .int (s1 12), .int (s1 13), .int (s1 14), .int (s1 15), .int (s1 16), .int (s1 17), .int (s1 18), .int (s1 19)]), .inr (0, [.ref 17]), .inl (0, 72, .inl (a1 0)), .inl (0, 12, .inl (a1 1)), .inl (0, 8, .inl (a1 2)), .inl (0, 3, .inl (a1 3)), .inl (0, 64, .inl (a1 4)), .inr (3, [.ref 23, .ref 24, .ref 25, .int (s1 20)]), .inl (0, 306, .inl (a1 5)), .inl (0, 306, .inl (a1 6)), .inl (0, 3, .inl (a1 7)), .inr (6, [.int (s1 21), .int (s1 22), .int (s1 23), .int (s1 24), .int (s1 25)]), .inr (1, [.ref 1, .ref 28, .ref 30, .ref 31, .ref 32, .ref 33, .ref 34, .ref 38, .int 0, .int 0, .int 0, .float 0, .int 0, .int 0, .int 0, .int 0, .int 0, .int 0, .int 0, .int 0]), .inr (0, [.ref 29]), .inl (0, 72, am_z 0), .inl (0, 12, am_z 0), .inl (0, 8, am_z 0), .inl (0, 3, am_z 0), .inl (0, 64, am_z 0), .inr (3, [.ref 35, .ref 36, .ref 37, .int 0]), .inl (0, 306, am_z 0), .inl (0, 306, am_z 0), .inl (0, 3, am_z 0), .inr (6, [.int 0, .int 0, .int 0, .int 0, .int 0])] 0 0
  refine s_invokevirtual (bc' := 0) (bs' := 0) hP t10_74 rfl rfl rfl rfl rfl ?_
  refine sp11p_2 (ha := ha) (hz := hz) (a1 := a1) (s1 := s1) (t1 := t1) (a2 := (fun _ _ => 0)) (s2 := (fun _ => 0)) (t2 := 0) (fun g u v hg hu hv => ?_)
  refine s_return_ hP t10_77 rfl ?_
  exact k g u v hg hu hv
