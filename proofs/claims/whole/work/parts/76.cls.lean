/-! THE CLASS: what remains of the methods that throw nothing. (rows by gen/sp31.py) -/
/-- what the class asks of a program, from its partners -/
def mw_Q (kd pt : Nat → Int32) (i : Nat) : Prop := mw_ok kd i ∧ ∀ m, m < i → mi_op (kd m) = true → ¬ pt m = -1
theorem mw_Q_iff {kd pt : Nat → Int32} {n : Nat} (hP : mw_P kd pt n) (hn : n ≤ 64) : mw_Q kd pt n ↔ mw_W kd n := by
  constructor
  · rintro ⟨h1, h2⟩
    refine ⟨h1, ?_⟩
    cases h9 : mw_st kd n with
    | nil => rfl
    | cons i r =>
      exfalso
      have hi : i ∈ mw_st kd n := by rw [h9]; exact List.mem_cons_self
      have hm := mw_mem hi
      exact h2 i hm.1 hm.2 (mw_open_m1 hP hi)
  · rintro ⟨h1, h2⟩
    refine ⟨h1, fun m hm hop h3 => ?_⟩
    obtain ⟨j, hj, hc, hpt⟩ := mw_W_o ⟨h1, h2⟩ hP hm hop
    exact nI_ne_m1 (by omega) (hpt.symm.trans h3)
theorem mw_Q_le {kd pt : Nat → Int32} {n i : Nat} (h : mw_Q kd pt n) (hi : i ≤ n) : mw_Q kd pt i := ⟨mw_ok_le h.1 hi, fun m hm => h.2 m (by omega)⟩
set_option maxHeartbeats 4000000 in
theorem sp53 {d : Nat} {K : am_K} {ha : Nat → Nat → Int32} {hz : Int32} {a1 : Nat → Nat → Int32} {s1 : Nat → Int32} {t1 : UInt32} {a2 : Nat → Nat → Int32} {s2 : Nat → Int32} {t2 : UInt32} {al : Int32} {ma : Nat → Nat → Int32} {ms : Nat → Int32} {mt : UInt32} {ol : Nat → Int64} {od : Nat → UInt64} {M : Nat} (hM : hz = nI M) (hM9 : M ≤ 64) (hP9 : mw_P (ha 5) (ha 9) M) (k : ∀ v : Bool, (v = true ↔ mw_W (ha 5) M) → K (some (.int (am_b v))) (am_W ha hz a1 s1 t1 a2 s2 t2 al ma ms mt ol od)) : am_Run (d + 4) 53 [.ref 9] (am_W ha hz a1 s1 t1 a2 s2 t2 al ma ms mt ol od) K := by
  refine ⟨rfl, fun P hm hP => ?_⟩
  show P 0 [some (.ref 9), none, none, none] [] _ 0 0
  have loop : ∀ (m i : Nat), i ≤ M → M + 1 ≤ i + m → mw_Q (ha 5) (ha 9) i → P 4 [some (.ref 9), some (.int (nI (mw_st (ha 5) i).length)), some (.int (nI i)), none] [] (am_W ha hz a1 s1 t1 a2 s2 t2 al ma ms mt ol od) 0 0 := by
    intro m
    induction m with
    | zero => intro i h3 h4; omega
    | succ m ih =>
      intro i h3 h4 hQ
      refine s_iload_n hP t53_4 rfl ?_
      refine s_aload_n hP t53_5 rfl ?_
      refine s_getfield hP t53_6 rfl rfl ?_
      refine s_icmp_ge hP t53_9 (fun q9 => ?_) (fun q9 => ?_)
      · have e9 : M ≤ i := (nI_leI (by omega) (by omega)).mp (by rw [← hM]; exact q9)
        refine s_iconst (v := 1) hP t53_82 (by decide) ?_
        refine s_ireturn hP t53_83 rfl rfl ?_
        obtain rfl : i = M := by omega
        exact k true ⟨fun _ => (mw_Q_iff hP9 hM9).mp hQ, fun _ => rfl⟩
      · have e9 : i < M := Nat.lt_of_not_le (fun q => q9 (by rw [hM]; exact (nI_leI (by omega) (by omega)).mpr q))
        refine s_aload_n hP t53_12 rfl ?_
        refine s_iload_n hP t53_13 rfl ?_
        refine s_invokevirtual (bc' := 0) (bs' := 0) hP t53_14 rfl rfl rfl rfl rfl ?_
        refine sp55 rfl rfl (x := nI i) (vp_in_nI (by omega) (by decide)) (by rw [hM]; exact mi_iw_blk e9 hM9) ?_
        rw [nI_clamp (by omega)]
        refine s_istore_n_3 hP t53_17 (by exact rfl) ?_
        refine s_iload_n hP t53_18 rfl ?_
        refine s_zne hP t53_19 (fun q19 => ?_) (fun q19 => ?_)
        · refine s_aload_n hP t53_33 rfl ?_
          refine s_getfield hP t53_34 rfl rfl ?_
          refine s_iload_n hP t53_37 rfl ?_
          refine s_iaload hP t53_38 rfl (vp_in_nI (by omega) (by decide)) ?_
          rw [nI_clamp (by omega)]
          refine s_iconst (v := (-1)) hP t53_39 (by decide) ?_
          refine s_icmp_ne hP t53_40 (fun q40 => ?_) (fun q40 => ?_)
          · have hop : mi_op (ha 5 i) = true := q19
            have hne : ¬ ha 5 i = 101 := fun q => absurd hop (mw_op_no q)
            have hA : ha 5 i = 101 → ¬ mw_st (ha 5) i = [] := fun q => absurd q hne
            have hB : mi_op (ha 5 i) = true → ¬ ha 9 i = -1 := fun _ => q40
            refine s_iload_n hP t53_45 rfl ?_
            refine s_zeq hP t53_46 (fun q46 => ?_) (fun q46 => ?_)
            · exact absurd (q19.symm.trans q46) (by decide)
            · refine s_iinc_1 (v := 1) hP t53_49 (by decide) (by exact rfl) ?_
              refine s_goto hP t53_52 ?_
              rw [nI_1, show (mw_st (ha 5) i).length + 1 = (mw_st (ha 5) (i + 1)).length by rw [mw_push hop, List.length_cons]]
              have hl1 := mw_len (kd := ha 5) (i + 1)
              refine s_iload_n hP t53_69 rfl ?_
              refine s_iconst (v := 3) hP t53_70 (by decide) ?_
              refine s_icmp_le hP t53_71 (fun q71 => ?_) (fun q71 => ?_)
              · have h3c : (mw_st (ha 5) (i + 1)).length ≤ 3 := (nI_leI (by omega) (by decide)).mp q71
                refine s_iinc_2 (v := 1) hP t53_76 (by decide) (by exact rfl) ?_
                refine s_goto hP t53_79 ?_
                rw [nI_1]
                refine hm _ _ _ _ _ _ _ (by repeat (first | exact am_le_nil | apply am_le_cons | apply am_le_none)) (ih (i + 1) (by omega) (by omega) ⟨fun m hm0 => by
                  by_cases hmi : m = i
                  · rw [hmi]; exact ⟨hA, h3c⟩
                  · exact hQ.1 m (by omega), fun m hm0 hop => by
                  by_cases hmi : m = i
                  · rw [hmi] at hop ⊢; exact hB hop
                  · exact hQ.2 m (by omega) hop⟩)
              · refine s_iconst (v := 0) hP t53_74 (by decide) ?_
                refine s_ireturn hP t53_75 rfl rfl ?_
                have hbad : ¬ mw_Q (ha 5) (ha 9) M := fun q => q71 ((nI_leI (by omega) (by decide)).mpr (q.1 i e9).2)
                exact k false ⟨fun q => (by cases q), fun q => absurd ((mw_Q_iff hP9 hM9).mpr q) hbad⟩
          · have hpart : ¬ mw_Q (ha 5) (ha 9) M := fun q => q.2 i e9 q19 q40
            refine s_iconst (v := 0) hP t53_43 (by decide) ?_
            refine s_ireturn hP t53_44 rfl rfl ?_
            have hbad : ¬ mw_Q (ha 5) (ha 9) M := hpart
            exact k false ⟨fun q => (by cases q), fun q => absurd ((mw_Q_iff hP9 hM9).mpr q) hbad⟩
        · refine s_aload_n hP t53_22 rfl ?_
          refine s_getfield hP t53_23 rfl rfl ?_
          refine s_iload_n hP t53_26 rfl ?_
          refine s_iaload hP t53_27 rfl (vp_in_nI (by omega) (by decide)) ?_
          rw [nI_clamp (by omega)]
          refine s_bipush (v := 101) hP t53_28 (by decide) ?_
          refine s_icmp_ne hP t53_30 (fun q30 => ?_) (fun q30 => ?_)
          · have hop : ¬ mi_op (ha 5 i) = true := by rw [q19]; decide
            have hA : ha 5 i = 101 → ¬ mw_st (ha 5) i = [] := fun q => absurd q q30
            have hB : mi_op (ha 5 i) = true → ¬ ha 9 i = -1 := fun q => absurd q hop
            refine s_iload_n hP t53_45 rfl ?_
            refine s_zeq hP t53_46 (fun q46 => ?_) (fun q46 => ?_)
            · refine s_aload_n hP t53_55 rfl ?_
              refine s_getfield hP t53_56 rfl rfl ?_
              refine s_iload_n hP t53_59 rfl ?_
              refine s_iaload hP t53_60 rfl (vp_in_nI (by omega) (by decide)) ?_
              rw [nI_clamp (by omega)]
              refine s_bipush (v := 101) hP t53_61 (by decide) ?_
              refine s_icmp_ne hP t53_63 (fun q63 => ?_) (fun q63 => ?_)
              · rw [show (mw_st (ha 5) i).length = (mw_st (ha 5) (i + 1)).length by rw [mw_same hop q30]]
                have hl1 := mw_len (kd := ha 5) (i + 1)
                refine s_iload_n hP t53_69 rfl ?_
                refine s_iconst (v := 3) hP t53_70 (by decide) ?_
                refine s_icmp_le hP t53_71 (fun q71 => ?_) (fun q71 => ?_)
                · have h3c : (mw_st (ha 5) (i + 1)).length ≤ 3 := (nI_leI (by omega) (by decide)).mp q71
                  refine s_iinc_2 (v := 1) hP t53_76 (by decide) (by exact rfl) ?_
                  refine s_goto hP t53_79 ?_
                  rw [nI_1]
                  refine hm _ _ _ _ _ _ _ (by repeat (first | exact am_le_nil | apply am_le_cons | apply am_le_none)) (ih (i + 1) (by omega) (by omega) ⟨fun m hm0 => by
                    by_cases hmi : m = i
                    · rw [hmi]; exact ⟨hA, h3c⟩
                    · exact hQ.1 m (by omega), fun m hm0 hop => by
                    by_cases hmi : m = i
                    · rw [hmi] at hop ⊢; exact hB hop
                    · exact hQ.2 m (by omega) hop⟩)
                · refine s_iconst (v := 0) hP t53_74 (by decide) ?_
                  refine s_ireturn hP t53_75 rfl rfl ?_
                  have hbad : ¬ mw_Q (ha 5) (ha 9) M := fun q => q71 ((nI_leI (by omega) (by decide)).mpr (q.1 i e9).2)
                  exact k false ⟨fun q => (by cases q), fun q => absurd ((mw_Q_iff hP9 hM9).mpr q) hbad⟩
              · exact absurd q63 q30
            · exact absurd (q19.symm.trans q46) (by decide)
          · refine s_aload_n hP t53_33 rfl ?_
            refine s_getfield hP t53_34 rfl rfl ?_
            refine s_iload_n hP t53_37 rfl ?_
            refine s_iaload hP t53_38 rfl (vp_in_nI (by omega) (by decide)) ?_
            rw [nI_clamp (by omega)]
            refine s_iconst (v := (-1)) hP t53_39 (by decide) ?_
            refine s_icmp_ne hP t53_40 (fun q40 => ?_) (fun q40 => ?_)
            · have hop : ¬ mi_op (ha 5 i) = true := by rw [q19]; decide
              have hA : ha 5 i = 101 → ¬ mw_st (ha 5) i = [] := fun _ q => by
                rcases (hP9 i e9).1 q30 with ⟨-, r⟩ | ⟨p, r, h8, -⟩
                · exact q40 r
                · rw [h8] at q; cases q
              have hB : mi_op (ha 5 i) = true → ¬ ha 9 i = -1 := fun q => absurd q hop
              refine s_iload_n hP t53_45 rfl ?_
              refine s_zeq hP t53_46 (fun q46 => ?_) (fun q46 => ?_)
              · refine s_aload_n hP t53_55 rfl ?_
                refine s_getfield hP t53_56 rfl rfl ?_
                refine s_iload_n hP t53_59 rfl ?_
                refine s_iaload hP t53_60 rfl (vp_in_nI (by omega) (by decide)) ?_
                rw [nI_clamp (by omega)]
                refine s_bipush (v := 101) hP t53_61 (by decide) ?_
                refine s_icmp_ne hP t53_63 (fun q63 => ?_) (fun q63 => ?_)
                · exact absurd q30 q63
                · refine s_iinc_1 (v := (-1)) hP t53_66 (by decide) (by exact rfl) ?_
                  rw [mw_tail q30 (hA q30), nI_m1]
                  have hl1 := mw_len (kd := ha 5) (i + 1)
                  refine s_iload_n hP t53_69 rfl ?_
                  refine s_iconst (v := 3) hP t53_70 (by decide) ?_
                  refine s_icmp_le hP t53_71 (fun q71 => ?_) (fun q71 => ?_)
                  · have h3c : (mw_st (ha 5) (i + 1)).length ≤ 3 := (nI_leI (by omega) (by decide)).mp q71
                    refine s_iinc_2 (v := 1) hP t53_76 (by decide) (by exact rfl) ?_
                    refine s_goto hP t53_79 ?_
                    rw [nI_1]
                    refine hm _ _ _ _ _ _ _ (by repeat (first | exact am_le_nil | apply am_le_cons | apply am_le_none)) (ih (i + 1) (by omega) (by omega) ⟨fun m hm0 => by
                      by_cases hmi : m = i
                      · rw [hmi]; exact ⟨hA, h3c⟩
                      · exact hQ.1 m (by omega), fun m hm0 hop => by
                      by_cases hmi : m = i
                      · rw [hmi] at hop ⊢; exact hB hop
                      · exact hQ.2 m (by omega) hop⟩)
                  · refine s_iconst (v := 0) hP t53_74 (by decide) ?_
                    refine s_ireturn hP t53_75 rfl rfl ?_
                    have hbad : ¬ mw_Q (ha 5) (ha 9) M := fun q => q71 ((nI_leI (by omega) (by decide)).mpr (q.1 i e9).2)
                    exact k false ⟨fun q => (by cases q), fun q => absurd ((mw_Q_iff hP9 hM9).mpr q) hbad⟩
              · exact absurd (q19.symm.trans q46) (by decide)
            · have hpart : ¬ mw_Q (ha 5) (ha 9) M := fun q => by
                rcases (hP9 i e9).1 q30 with ⟨r, -⟩ | ⟨p, r, h7, h8⟩
                · exact (q.1 i e9).1 q30 r
                · exact nI_ne_m1 (by have := (mw_head h7).1; omega) (h8.symm.trans q40)
              refine s_iconst (v := 0) hP t53_43 (by decide) ?_
              refine s_ireturn hP t53_44 rfl rfl ?_
              have hbad : ¬ mw_Q (ha 5) (ha 9) M := hpart
              exact k false ⟨fun q => (by cases q), fun q => absurd ((mw_Q_iff hP9 hM9).mpr q) hbad⟩
  refine s_iconst (v := 0) hP t53_0 (by decide) ?_
  refine s_istore_n_1 hP t53_1 (by exact rfl) ?_
  refine s_iconst (v := 0) hP t53_2 (by decide) ?_
  refine s_istore_n_2 hP t53_3 (by exact rfl) ?_
  exact loop (M + 1) 0 (by omega) (by omega) ⟨fun m hm => by omega, fun m hm => by omega⟩
set_option maxHeartbeats 2000000 in
theorem sp57 {d : Nat} {K : am_K} {ha : Nat → Nat → Int32} {hz : Int32} {a1 : Nat → Nat → Int32} {s1 : Nat → Int32} {t1 : UInt32} {a2 : Nat → Nat → Int32} {s2 : Nat → Int32} {t2 : UInt32} {al : Int32} {ma : Nat → Nat → Int32} {ms : Nat → Int32} {mt : UInt32} {ol : Nat → Int64} {od : Nat → UInt64} {c : Nat} (hc : c < 12) {z r l : Int32} (hz9 : mi_shape z = true) (k : K none (am_W (am_u2 (am_u2 (am_u2 ha 0 (upd (ha 0) c z)) 1 (upd (ha 1) c r)) 2 (upd (ha 2) c l)) hz a1 s1 t1 a2 s2 t2 al ma ms mt ol od)) : am_Run (d + 2) 57 [.ref 2, .int (nI c), .int z, .int r, .int l] (am_W ha hz a1 s1 t1 a2 s2 t2 al ma ms mt ol od) K := by
  refine ⟨rfl, fun P hm hP => ?_⟩
  show P 0 [some (.ref 2), some (.int (nI c)), some (.int z), some (.int r), some (.int l)] [] _ 0 0
  refine s_iload_n hP t57_0 rfl ?_
  refine s_iconst (v := 0) hP t57_1 (by decide) ?_
  refine s_bipush (v := 11) hP t57_2 (by decide) ?_
  refine s_invokestatic (bc' := 0) (bs' := 0) hP t57_4 rfl rfl rfl rfl rfl ?_
  refine sp84 ?_
  rw [show mi_iw (nI c) 0 11 = true from mi_iw11 (by omega)]
  refine s_zeq hP t57_7 (fun q7 => ?_) (fun q7 => ?_)
  · cases q7
  · refine s_aload_n hP t57_10 rfl ?_
    refine s_getfield hP t57_11 rfl rfl ?_
    refine s_iload_n hP t57_14 rfl ?_
    refine s_iload_n hP t57_15 rfl ?_
    refine s_castore hP t57_16 rfl (vp_in_nI (by omega) (by decide)) ?_
    rw [nI_clamp (by omega), mb_sh hz9]
    refine s_aload_n hP t57_17 rfl ?_
    refine s_getfield hP t57_18 rfl rfl ?_
    refine s_iload_n hP t57_21 rfl ?_
    refine s_iload_n hP t57_22 rfl ?_
    refine s_iastore hP t57_23 rfl (vp_in_nI (by omega) (by decide)) ?_
    rw [nI_clamp (by omega)]
    refine s_aload_n hP t57_24 rfl ?_
    refine s_getfield hP t57_25 rfl rfl ?_
    refine s_iload_n hP t57_28 rfl ?_
    refine s_iload hP t57_29 rfl ?_
    refine s_iastore hP t57_31 rfl (vp_in_nI (by omega) (by decide)) ?_
    rw [nI_clamp (by omega)]
    refine s_return_ hP t57_32 rfl ?_
    exact k
set_option maxHeartbeats 1000000 in
theorem sp70 {d : Nat} {K : am_K} {ha : Nat → Nat → Int32} {hz : Int32} {a1 : Nat → Nat → Int32} {s1 : Nat → Int32} {t1 : UInt32} {a2 : Nat → Nat → Int32} {s2 : Nat → Int32} {t2 : UInt32} {al : Int32} {ma : Nat → Nat → Int32} {ms : Nat → Int32} {mt : UInt32} {ol : Nat → Int64} {od : Nat → UInt64} {M : Nat} (hM : hz = nI M) (hM9 : M ≤ 64) (hP9 : mw_P (ha 5) (ha 9) M) (k : ∀ v : Bool, (v = true ↔ mw_W (ha 5) M) → K (some (.int (am_b v))) (am_W ha hz a1 s1 t1 a2 s2 t2 al ma ms mt ol od)) : am_Run (d + 5) 70 [.ref 0] (am_W ha hz a1 s1 t1 a2 s2 t2 al ma ms mt ol od) K := by
  refine ⟨rfl, fun P hm hP => ?_⟩
  show P 0 [some (.ref 0)] [] _ 0 0
  refine s_aload_n hP t70_0 rfl ?_
  refine s_getfield hP t70_1 rfl rfl ?_
  refine s_getfield hP t70_4 rfl rfl ?_
  refine s_invokevirtual (bc' := 0) (bs' := 0) hP t70_7 rfl rfl rfl rfl rfl ?_
  refine sp53 hM hM9 hP9 (fun v hv => ?_)
  refine s_ireturn hP t70_10 rfl (am_nar_b _) ?_
  exact k v hv
set_option maxHeartbeats 1000000 in
theorem sp83 {d : Nat} {K : am_K} {ha : Nat → Nat → Int32} {hz : Int32} {a1 : Nat → Nat → Int32} {s1 : Nat → Int32} {t1 : UInt32} {a2 : Nat → Nat → Int32} {s2 : Nat → Int32} {t2 : UInt32} {al : Int32} {ma : Nat → Nat → Int32} {ms : Nat → Int32} {mt : UInt32} {ol : Nat → Int64} {od : Nat → UInt64} (k : ∀ g u v : Nat → Int32, (∀ j, j < 72 → g j = 65535) → (∀ j, j < 12 → u j = 0) → (∀ j, j < 8 → v j = 0) → K none (am_W ha hz (mc_a0 a1 g u v) (mc_s0 s1) FP.fconst0 a2 s2 t2 45 ma ms mt ol od)) : am_Run (d + 3) 83 [.ref 0] (am_W ha hz a1 s1 t1 a2 s2 t2 al ma ms mt ol od) K := by
  refine ⟨rfl, fun P hm hP => ?_⟩
  show P 0 [some (.ref 0)] [] _ 0 0
  refine s_aload_n hP t83_0 rfl ?_
  refine s_getfield hP t83_1 rfl rfl ?_
  refine s_invokevirtual (bc' := 0) (bs' := 0) hP t83_4 rfl rfl rfl rfl rfl ?_
  refine sp11_1 (fun g u v hg hu hv => ?_)
  refine s_aload_n hP t83_7 rfl ?_
  refine s_bipush (v := 45) hP t83_8 (by decide) ?_
  refine s_putfield hP t83_10 rfl rfl rfl rfl ?_
  refine s_return_ hP t83_13 rfl ?_
  exact k g u v hg hu hv
set_option maxHeartbeats 1000000 in
theorem sp71 {d : Nat} {K : am_K} {ha : Nat → Nat → Int32} {hz : Int32} {a1 : Nat → Nat → Int32} {s1 : Nat → Int32} {t1 : UInt32} {a2 : Nat → Nat → Int32} {s2 : Nat → Int32} {t2 : UInt32} {al : Int32} {ma : Nat → Nat → Int32} {ms : Nat → Int32} {mt : UInt32} {ol : Nat → Int64} {od : Nat → UInt64} (k : ∀ g u v : Nat → Int32, (∀ j, j < 72 → g j = 65535) → (∀ j, j < 12 → u j = 0) → (∀ j, j < 8 → v j = 0) → K (some (.int (s1 9))) (am_W ha hz (mc_a0 a1 g u v) (mc_s0 s1) FP.fconst0 a2 s2 t2 45 ma ms mt ol od)) : am_Run (d + 4) 71 [.ref 0] (am_W ha hz a1 s1 t1 a2 s2 t2 al ma ms mt ol od) K := by
  refine ⟨rfl, fun P hm hP => ?_⟩
  show P 0 [some (.ref 0), none] [] _ 0 0
  refine s_aload_n hP t71_0 rfl ?_
  refine s_getfield hP t71_1 rfl rfl ?_
  refine s_getfield hP t71_4 rfl rfl ?_
  refine s_istore_n_1 hP t71_7 (by exact rfl) ?_
  refine s_aload_n hP t71_8 rfl ?_
  refine s_invokevirtual (bc' := 0) (bs' := 0) hP t71_9 rfl rfl rfl rfl rfl ?_
  refine sp83 (fun g u v hg hu hv => ?_)
  refine s_iload_n hP t71_12 rfl ?_
  refine s_ireturn hP t71_13 rfl rfl ?_
  exact k g u v hg hu hv
set_option maxHeartbeats 1000000 in
theorem sp77 {d : Nat} {K : am_K} {ha : Nat → Nat → Int32} {hz : Int32} {a1 : Nat → Nat → Int32} {s1 : Nat → Int32} {t1 : UInt32} {a2 : Nat → Nat → Int32} {s2 : Nat → Int32} {t2 : UInt32} {al : Int32} {ma : Nat → Nat → Int32} {ms : Nat → Int32} {mt : UInt32} {ol : Nat → Int64} {od : Nat → UInt64} {S : Nat → Bool} (hS : ∀ j, j < 72 → a1 0 j = mr_w (fun q => S (16 * j + q))) (k : K (some (.int (nI (mr_cnt 1152 S)))) (am_W ha hz a1 s1 t1 a2 s2 t2 al ma ms mt ol od)) : am_Run (d + 3) 77 [.ref 0] (am_W ha hz a1 s1 t1 a2 s2 t2 al ma ms mt ol od) K := by
  refine ⟨rfl, fun P hm hP => ?_⟩
  show P 0 [some (.ref 0)] [] _ 0 0
  refine s_aload_n hP t77_0 rfl ?_
  refine s_getfield hP t77_1 rfl rfl ?_
  refine s_getfield hP t77_4 rfl rfl ?_
  refine s_invokevirtual (bc' := 0) (bs' := 0) hP t77_7 rfl rfl rfl rfl rfl ?_
  refine sp4 (a := 16) (b := 17) rfl rfl hS ?_
  refine s_ireturn hP t77_10 rfl rfl ?_
  exact k
set_option maxHeartbeats 1000000 in
theorem sp78 {d : Nat} {K : am_K} {ha : Nat → Nat → Int32} {hz : Int32} {a1 : Nat → Nat → Int32} {s1 : Nat → Int32} {t1 : UInt32} {a2 : Nat → Nat → Int32} {s2 : Nat → Int32} {t2 : UInt32} {al : Int32} {ma : Nat → Nat → Int32} {ms : Nat → Int32} {mt : UInt32} {ol : Nat → Int64} {od : Nat → UInt64} {S : Nat → Bool} (hS : ∀ j, j < 72 → a1 0 j = mr_w (fun q => S (16 * j + q))) (k : K (some (.long (mr_sumL 1152 S))) (am_W ha hz a1 s1 t1 a2 s2 t2 al ma ms mt ol od)) : am_Run (d + 2) 78 [.ref 0] (am_W ha hz a1 s1 t1 a2 s2 t2 al ma ms mt ol od) K := by
  refine ⟨rfl, fun P hm hP => ?_⟩
  show P 0 [some (.ref 0)] [] _ 0 0
  refine s_aload_n hP t78_0 rfl ?_
  refine s_getfield hP t78_1 rfl rfl ?_
  refine s_getfield hP t78_4 rfl rfl ?_
  refine s_invokevirtual (bc' := 0) (bs' := 0) hP t78_7 rfl rfl rfl rfl rfl ?_
  refine sp5 (a := 16) (b := 17) rfl rfl hS ?_
  refine s_lreturn hP t78_10 rfl ?_
  exact k
set_option maxHeartbeats 2000000 in
theorem sp81 {d : Nat} {K : am_K} {ha : Nat → Nat → Int32} {hz : Int32} {a1 : Nat → Nat → Int32} {s1 : Nat → Int32} {t1 : UInt32} {a2 : Nat → Nat → Int32} {s2 : Nat → Int32} {t2 : UInt32} {al : Int32} {ma : Nat → Nat → Int32} {ms : Nat → Int32} {mt : UInt32} {ol : Nat → Int64} {od : Nat → UInt64} {S : Nat → Bool} (hS : ∀ j, j < 72 → a1 0 j = mr_w (fun q => S (16 * j + q))) (hn : vf_n32 (FP.fdiv (FP.i2f (nI (1152 - mr_cnt 1152 S))) 1150287872)) (k : K (some (.float (if mr_cnt 1152 S < 1152 - mr_cnt 1152 S then FP.fneg (FP.fdiv (FP.i2f (nI (1152 - mr_cnt 1152 S))) 1150287872) else (FP.fdiv (FP.i2f (nI (1152 - mr_cnt 1152 S))) 1150287872)))) (am_W ha hz a1 s1 t1 a2 s2 t2 al ma ms mt ol od)) : am_Run (d + 3) 81 [.ref 0] (am_W ha hz a1 s1 t1 a2 s2 t2 al ma ms mt ol od) K := by
  refine ⟨rfl, fun P hm hP => ?_⟩
  show P 0 [some (.ref 0), none, none, none] [] _ 0 0
  refine s_aload_n hP t81_0 rfl ?_
  refine s_getfield hP t81_1 rfl rfl ?_
  refine s_getfield hP t81_4 rfl rfl ?_
  refine s_invokevirtual (bc' := 0) (bs' := 0) hP t81_7 rfl rfl rfl rfl rfl ?_
  refine sp4 (a := 16) (b := 17) rfl rfl hS ?_
  have hc9 := mr_cnt_le 1152 S
  refine s_istore_n_1 hP t81_10 (by exact rfl) ?_
  refine s_sipush (v := 1152) hP t81_11 (by decide) ?_
  refine s_iload_n hP t81_14 rfl ?_
  refine s_isub hP t81_15 ?_
  rw [show (1152 : Int32) - nI (mr_cnt 1152 S) = nI (1152 - mr_cnt 1152 S) from pk_sub hc9]
  refine s_istore_n_2 hP t81_16 (by exact rfl) ?_
  refine s_iload_n hP t81_17 rfl ?_
  refine s_i2f hP t81_18 ?_
  refine s_ldcf (v := 1150287872) hP t81_19 rfl ?_
  refine s_fdiv hP t81_21 hn ?_
  refine s_fstore_n_3 hP t81_22 (by exact rfl) ?_
  refine s_iload_n hP t81_23 rfl ?_
  refine s_iload_n hP t81_24 rfl ?_
  refine s_isub hP t81_25 ?_
  refine s_if_ge hP t81_26 (fun q26 => ?_) (fun q26 => ?_)
  · have e26 : ¬ mr_cnt 1152 S < 1152 - mr_cnt 1152 S := fun q => absurd (pk_sneg (by omega) q) (Int32.not_lt.mpr q26)
    refine s_fload_n hP t81_34 rfl ?_
    refine s_freturn hP t81_35 rfl ?_
    rw [if_neg e26] at k
    exact k
  · have e26 : mr_cnt 1152 S < 1152 - mr_cnt 1152 S := Nat.lt_of_not_le (fun q => q26 (by rw [pk_sub q]; exact nI_pos' (by omega)))
    refine s_fload_n hP t81_29 rfl ?_
    refine s_fneg hP t81_30 ?_
    refine s_goto hP t81_31 ?_
    refine s_freturn hP t81_35 rfl ?_
    rw [if_pos e26] at k
    exact k
theorem ff_cmp {t : UInt32} (ht : ff_ok 156 t.toNat) : FP.fcmp t t = some .eq := by
  show FP.Core.order (FP.Core.decode FP.Core.b32 t.toNat) (FP.Core.decode FP.Core.b32 t.toNat) = some .eq
  rcases ht with h | ⟨E, T, en, hT, h1, h2, h3⟩
  · rw [h]; decide +kernel
  · rw [ff_dec en hT (by omega) (by omega)]
    show some (compare _ _) = _
    rw [Int.min_self] 
    generalize FP.Core.signed false (FP.Core.inUnits (2 ^ 23 + T) ((E : Int) - 150) ((E : Int) - 150)) = z
    simp
theorem sx_it_9 {ha : Nat → Nat → Int32} {hz : Int32} : ∀ D, (sx_it ha hz D sx_0).s 9 = nI D
  | 0 => rfl
  | D + 1 => by
    show (sx_it ha hz D sx_0).s 9 + 1 = nI (D + 1)
    rw [sx_it_9 D, nI_1]
set_option maxHeartbeats 4000000 in
theorem sp82 {d : Nat} {K : am_K} {ha : Nat → Nat → Int32} {hz : Int32} {a1 : Nat → Nat → Int32} {s1 : Nat → Int32} {t1 : UInt32} {a2 : Nat → Nat → Int32} {s2 : Nat → Int32} {t2 : UInt32} {al : Int32} {ma : Nat → Nat → Int32} {ms : Nat → Int32} {mt : UInt32} {ol : Nat → Int64} {od : Nat → UInt64} {T : Nat → Bool} {M D : Nat} (hH : sx_H ha hz T M) (hWD : 0 < D → mw_W (ha 5) M) (hr : sx_run ha hz T M D) (hD : D < 1000000) {S : Nat → Bool} (hS : ∀ j, j < 72 → a1 0 j = mr_w (fun q => S (16 * j + q))) (hE : sx_E (ha 5) (sx_N (sx_it ha hz D sx_0)) (sx_it ha hz D sx_0) (a1, s1, t1, S)) (k : ∀ (b : Nat → Nat → Int32) (p : Nat → Int32) (t9 : UInt32) (S9 : Nat → Bool), (∀ j, j < 72 → b 0 j = mr_w (fun q => S9 (16 * j + q))) → sx_E (ha 5) (sx_N (sx_it ha hz D sx_0)) (sx_it ha hz D sx_0) (b, p, t9, S9) → K (some (.int 1)) (am_W ha hz a1 s1 t1 b p t9 al ma ms mt ol od)) : am_Run (d + 9) 82 [.ref 0] (am_W ha hz a1 s1 t1 a2 s2 t2 al ma ms mt ol od) K := by
  refine ⟨rfl, fun P hm hP => ?_⟩
  show P 0 [some (.ref 0)] [] _ 0 0
  have hV : sx_V ha T M (a1, s1, t1, S) := by
    by_cases h0 : D = 0
    · subst h0
      exact sx_V_E hE sx_V_0
    · exact sx_V_E hE (sx_it_V hH (hWD (by omega)) D hr)
  refine s_aload_n hP t82_0 rfl ?_
  refine s_getfield hP t82_1 rfl rfl ?_
  refine s_aload_n hP t82_4 rfl ?_
  refine s_getfield hP t82_5 rfl rfl ?_
  refine s_getfield hP t82_8 rfl rfl ?_
  refine s_invokevirtual (bc' := 0) (bs' := 0) hP t82_11 rfl rfl rfl rfl rfl ?_
  have hs9 : s1 9 = nI D := (hE.2.2.2.2.1 9 (by omega) (by omega) (by omega)).symm.trans (sx_it_9 D)
  rw [hs9]
  refine sp15_2 hH hWD hr hD (fun b p t9 S9 hS9 hE9 => ?_)
  have eS : ∀ q, q < 1152 → S q = S9 q := fun q hq => (hE.2.2.2.2.2.2 q hq).symm.trans (hE9.2.2.2.2.2.2 q hq)
  have et : t9 = t1 := hE9.2.2.2.2.2.1.symm.trans hE.2.2.2.2.2.1
  subst et
  refine s_aload_n hP t82_14 rfl ?_
  refine s_getfield hP t82_15 rfl rfl ?_
  refine s_getfield hP t82_18 rfl rfl ?_
  refine s_aload_n hP t82_21 rfl ?_
  refine s_getfield hP t82_22 rfl rfl ?_
  refine s_getfield hP t82_25 rfl rfl ?_
  refine s_invokevirtual (bc' := 0) (bs' := 0) hP t82_28 rfl rfl rfl rfl rfl ?_
  refine sp6 (a := 16) (b := 17) (a2 := 28) (b2 := 29) rfl rfl hS rfl rfl hS9 (fun v hv => ?_)
  obtain rfl : v = true := hv.mpr eS
  refine s_zeq hP t82_31 (fun q31 => ?_) (fun q31 => ?_)
  · cases q31
  · refine s_aload_n hP t82_34 rfl ?_
    refine s_getfield hP t82_35 rfl rfl ?_
    refine s_getfield hP t82_38 rfl rfl ?_
    refine s_aload_n hP t82_41 rfl ?_
    refine s_getfield hP t82_42 rfl rfl ?_
    refine s_getfield hP t82_45 rfl rfl ?_
    refine s_fcmp hP t82_48 ?_
    refine s_if_ne hP t82_49 (fun q49 => ?_) (fun q49 => ?_)
    · exact absurd (by rw [ff_cmp hV.2.2.2.2.2.2.1]; rfl) q49
    · refine s_aload_n hP t82_52 rfl ?_
      refine s_getfield hP t82_53 rfl rfl ?_
      refine s_invokevirtual (bc' := 0) (bs' := 0) hP t82_56 rfl rfl rfl rfl rfl ?_
      refine sp14_1 (a2 := b) (s2 := p) ?_
      refine s_sipush (v := 1152) hP t82_59 (by decide) ?_
      refine s_aload_n hP t82_62 rfl ?_
      refine s_getfield hP t82_63 rfl rfl ?_
      refine s_getfield hP t82_66 rfl rfl ?_
      refine s_invokevirtual (bc' := 0) (bs' := 0) hP t82_69 rfl rfl rfl rfl rfl ?_
      refine sp4 (a := 16) (b := 17) rfl rfl hS ?_
      refine s_isub hP t82_72 ?_
      refine s_icmp_ne hP t82_73 (fun q73 => ?_) (fun q73 => ?_)
      · exact absurd (by rw [hV.2.2.2.2.2.2.2.2]; exact (pk_sub (mr_cnt_le 1152 S)).symm) q73
      · refine s_aload_n hP t82_76 rfl ?_
        refine s_getfield hP t82_77 rfl rfl ?_
        refine s_getfield hP t82_80 rfl rfl ?_
        refine s_aload_n hP t82_83 rfl ?_
        refine s_getfield hP t82_84 rfl rfl ?_
        refine s_getfield hP t82_87 rfl rfl ?_
        refine s_invokevirtual (bc' := 0) (bs' := 0) hP t82_90 rfl rfl rfl rfl rfl ?_
        refine sp7 (a := 16) (b := 17) (a2 := 6) (b2 := 7) rfl rfl hS rfl rfl hH.2.2.2.2.2.2.2 (fun v hv => ?_)
        obtain rfl : v = true := hv.mpr (fun q hq hTq => hV.2.2.2.2.2.2.2.1 q hq hTq)
        refine s_zeq hP t82_93 (fun q93 => ?_) (fun q93 => ?_)
        · cases q93
        · refine s_iconst (v := 1) hP t82_96 (by decide) ?_
          refine s_goto hP t82_97 ?_
          refine s_ireturn hP t82_101 rfl rfl ?_
          exact k b p t9 S9 hS9 hE9
