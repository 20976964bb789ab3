/-! WHOLE PROGRAMS, CLOSINGS AND OPENINGS. (rows by gen/sp22.py) -/
theorem mw_len {kd : Nat → Int32} : ∀ m, (mw_st kd m).length ≤ m
  | 0 => Nat.le_refl 0
  | m + 1 => by
    have := mw_len (kd := kd) m
    rw [mw_st]
    split
    · rw [List.length_cons]; omega
    · split
      · rw [List.length_tail]; omega
      · omega
theorem mw_tail {kd : Nat → Int32} {i : Nat} (h : kd i = 101) (h1 : ¬ mw_st kd i = []) : (mw_st kd i).length = (mw_st kd (i + 1)).length + 1 := by
  rw [mw_pop h, List.length_tail]
  cases h9 : mw_st kd i with
  | nil => exact absurd h9 h1
  | cons x t => rw [List.length_cons]; omega
theorem mw_open_m1 {kd pt : Nat → Int32} {n i : Nat} (h : mw_P kd pt n) (hi : i ∈ mw_st kd n) : pt i = -1 := by
  obtain ⟨h5, h6⟩ := mw_mem hi
  rcases (h i h5).2.1 h6 with ⟨j, hj, hc, h7⟩ | ⟨-, h7⟩
  · exfalso
    obtain ⟨l, r, h9⟩ := List.append_of_mem hi
    obtain ⟨-, -, h10⟩ := mw_suf n l i r h9
    subst h10
    obtain ⟨l2, h11⟩ := mw_way n ⟨l, h9⟩ (j + 1) (by have := hc.1; omega) (by omega)
    rw [mw_pop hc.2.1, hc.2.2.1, List.tail_cons] at h11
    have h12 := congrArg List.length h11
    rw [List.length_append, List.length_cons] at h12
    omega
  · exact h7
theorem mw_cl_uniq {kd : Nat → Int32} {N j k : Nat} (hc : mw_cl kd N j) (h1 : N < k) (h2 : k ≤ j) (hk : kd k = 101) (hs : mw_st kd k = N :: mw_st kd N) : k = j := by
  by_cases h : k = j
  · exact h
  · exfalso
    obtain ⟨l, h9⟩ := hc.2.2.2 (k + 1) (by omega) (by omega)
    rw [mw_pop hk, hs, List.tail_cons] at h9
    have h12 := congrArg List.length h9
    rw [List.length_append, List.length_cons] at h12
    omega
set_option maxHeartbeats 1000000 in
theorem sp111 {d : Nat} {K : am_K} {ha : Nat → Nat → Int32} {hz : Int32} {a1 : Nat → Nat → Int32} {s1 : Nat → Int32} {t1 : UInt32} {a2 : Nat → Nat → Int32} {s2 : Nat → Int32} {t2 : UInt32} {al : Int32} {ma : Nat → Nat → Int32} {ms : Nat → Int32} {mt : UInt32} {ol : Nat → Int64} {od : Nat → UInt64} {i : Nat} (hi : i < 64) (k : K (some (.int (am_b (mi_op (ma 1 i))))) (am_W ha hz a1 s1 t1 a2 s2 t2 al ma ms mt ol od)) : am_Run (d + 1) 111 [.ref 39, .int (nI i)] (am_W ha hz a1 s1 t1 a2 s2 t2 al ma ms mt ol od) K := by
  refine ⟨rfl, fun P hm hP => ?_⟩
  show P 0 [some (.ref 39), some (.int (nI i))] [] _ 0 0
  refine s_aload_n hP t111_0 rfl ?_
  refine s_getfield hP t111_1 rfl rfl ?_
  refine s_iload_n hP t111_4 rfl ?_
  refine s_caload hP t111_5 rfl (vp_in_nI hi (by decide)) ?_
  rw [nI_clamp (by omega)]
  refine s_bipush (v := 114) hP t111_6 (by decide) ?_
  refine s_icmp_eq hP t111_8 (fun q8 => ?_) (fun q8 => ?_)
  · refine s_iconst (v := 1) hP t111_22 (by decide) ?_
    refine s_goto hP t111_23 ?_
    refine s_ireturn hP t111_27 rfl rfl ?_
    rw [mi_op, decide_eq_true q8, Bool.true_or] at k
    exact k
  · refine s_aload_n hP t111_11 rfl ?_
    refine s_getfield hP t111_12 rfl rfl ?_
    refine s_iload_n hP t111_15 rfl ?_
    refine s_caload hP t111_16 rfl (vp_in_nI hi (by decide)) ?_
    rw [nI_clamp (by omega)]
    refine s_bipush (v := 105) hP t111_17 (by decide) ?_
    refine s_icmp_ne hP t111_19 (fun q19 => ?_) (fun q19 => ?_)
    · refine s_iconst (v := 0) hP t111_26 (by decide) ?_
      refine s_ireturn hP t111_27 rfl rfl ?_
      rw [mi_op, decide_eq_false q8, decide_eq_false q19] at k
      exact k
    · refine s_iconst (v := 1) hP t111_22 (by decide) ?_
      refine s_goto hP t111_23 ?_
      refine s_ireturn hP t111_27 rfl rfl ?_
      rw [mi_op, decide_eq_true q19, Bool.or_true] at k
      exact k
set_option maxHeartbeats 2000000 in
theorem sp112 {d : Nat} {K : am_K} {ha : Nat → Nat → Int32} {hz : Int32} {a1 : Nat → Nat → Int32} {s1 : Nat → Int32} {t1 : UInt32} {a2 : Nat → Nat → Int32} {s2 : Nat → Int32} {t2 : UInt32} {al : Int32} {ma : Nat → Nat → Int32} {ms : Nat → Int32} {mt : UInt32} {ol : Nat → Int64} {od : Nat → UInt64} {n : Nat} (hn : ms 16 = nI n) (hn9 : n ≤ 64) (k : ∀ v : Bool, (v = true ↔ mw_W (ma 1) n) → K (some (.int (am_b v))) (am_W ha hz a1 s1 t1 a2 s2 t2 al ma ms mt ol od)) : am_Run (d + 2) 112 [.ref 39] (am_W ha hz a1 s1 t1 a2 s2 t2 al ma ms mt ol od) K := by
  refine ⟨rfl, fun P hm hP => ?_⟩
  show P 0 [some (.ref 39), none, none] [] _ 0 0
  have loop : ∀ (m i : Nat), i ≤ n → n + 1 ≤ i + m → mw_ok (ma 1) i → P 4 [some (.ref 39), some (.int (nI (mw_st (ma 1) i).length)), some (.int (nI i))] [] (am_W ha hz a1 s1 t1 a2 s2 t2 al ma ms mt ol od) 0 0 := by
    intro m
    induction m with
    | zero => intro i h3 h4; omega
    | succ m ih =>
      intro i h3 h4 hi
      refine s_iload_n hP t112_4 rfl ?_
      refine s_aload_n hP t112_5 rfl ?_
      refine s_getfield hP t112_6 rfl rfl ?_
      refine s_icmp_ge hP t112_9 (fun q9 => ?_) (fun q9 => ?_)
      · have e9 : n ≤ i := (nI_leI (by omega) (by omega)).mp (by rw [← hn]; exact q9)
        refine s_iload_n hP t112_54 rfl ?_
        refine s_if_ne hP t112_55 (fun q55 => ?_) (fun q55 => ?_)
        · refine s_iconst (v := 0) hP t112_62 (by decide) ?_
          refine s_ireturn hP t112_63 rfl rfl ?_
          obtain rfl : i = n := by omega
          exact k false ⟨fun q => (by cases q), fun q => absurd (show nI (mw_st (ma 1) i).length = 0 by rw [q.2]; rfl) q55⟩
        · refine s_iconst (v := 1) hP t112_58 (by decide) ?_
          refine s_goto hP t112_59 ?_
          refine s_ireturn hP t112_63 rfl rfl ?_
          obtain rfl : i = n := by omega
          have hl := mw_len (kd := ma 1) i
          exact k true ⟨fun _ => ⟨hi, List.eq_nil_of_length_eq_zero ((nI_inj (b := 0) (by omega) (by decide)).mp q55)⟩, fun _ => rfl⟩
      · have e9 : i < n := Nat.lt_of_not_le (fun q => q9 (by rw [hn]; exact (nI_leI (by omega) (by omega)).mpr q))
        refine s_aload_n hP t112_12 rfl ?_
        refine s_iload_n hP t112_13 rfl ?_
        refine s_invokevirtual (bc' := 0) (bs' := 0) hP t112_14 rfl rfl rfl rfl rfl ?_
        refine sp111 (by omega) ?_
        refine s_zeq hP t112_17 (fun q17 => ?_) (fun q17 => ?_)
        · have q17 : ¬ mi_op (ma 1 i) = true := by rw [q17]; decide
          refine s_aload_n hP t112_23 rfl ?_
          refine s_getfield hP t112_24 rfl rfl ?_
          refine s_iload_n hP t112_27 rfl ?_
          refine s_caload hP t112_28 rfl (vp_in_nI (by omega) (by decide)) ?_
          rw [nI_clamp (by omega)]
          refine s_bipush (v := 101) hP t112_29 (by decide) ?_
          refine s_icmp_ne hP t112_31 (fun q31 => ?_) (fun q31 => ?_)
          · rw [show (mw_st (ma 1) i).length = (mw_st (ma 1) (i + 1)).length by rw [mw_same q17 q31]]
            have hne : ma 1 i = 101 → ¬ mw_st (ma 1) i = [] := fun q => absurd q q31
            have hl1 := mw_len (kd := ma 1) (i + 1)
            refine s_iload_n hP t112_37 rfl ?_
            refine s_if_lt hP t112_38 (fun q38 => ?_) (fun q38 => ?_)
            · exact absurd q38 (Int32.not_lt.mpr (nI_pos' (by omega)))
            · refine s_iload_n hP t112_41 rfl ?_
              refine s_iconst (v := 3) hP t112_42 (by decide) ?_
              refine s_icmp_le hP t112_43 (fun q43 => ?_) (fun q43 => ?_)
              · refine s_iinc_2 (v := 1) hP t112_48 (by decide) (by exact rfl) ?_
                refine s_goto hP t112_51 ?_
                rw [nI_1]
                exact ih (i + 1) (by omega) (by omega) (fun m hm => by
                  by_cases hmi : m = i
                  · rw [hmi]; exact ⟨hne, (nI_leI (by omega) (by decide)).mp q43⟩
                  · exact hi m (by omega))
              · refine s_iconst (v := 0) hP t112_46 (by decide) ?_
                refine s_ireturn hP t112_47 rfl rfl ?_
                exact k false ⟨fun q => (by cases q), fun q => by
                  have q9 := (q.1 i e9).2
                  exact absurd ((nI_leI (by omega) (by decide)).mpr q9) q43⟩
          · by_cases hst : mw_st (ma 1) i = []
            · refine s_iinc_1 (v := (-1)) hP t112_34 (by decide) (by exact rfl) ?_
              rw [hst]
              refine s_iload_n hP t112_37 rfl ?_
              refine s_if_lt hP t112_38 (fun q38 => ?_) (fun q38 => ?_)
              · refine s_iconst (v := 0) hP t112_46 (by decide) ?_
                refine s_ireturn hP t112_47 rfl rfl ?_
                exact k false ⟨fun q => (by cases q), fun q => absurd hst ((q.1 i e9).1 q31)⟩
              · exact absurd (show (nI ([] : List Nat).length + (-1) : Int32) < 0 from nI_neg (n := 0)) q38
            · refine s_iinc_1 (v := (-1)) hP t112_34 (by decide) (by exact rfl) ?_
              rw [mw_tail q31 hst, nI_m1]
              have hne : ma 1 i = 101 → ¬ mw_st (ma 1) i = [] := fun _ => hst
              have hl1 := mw_len (kd := ma 1) (i + 1)
              refine s_iload_n hP t112_37 rfl ?_
              refine s_if_lt hP t112_38 (fun q38 => ?_) (fun q38 => ?_)
              · exact absurd q38 (Int32.not_lt.mpr (nI_pos' (by omega)))
              · refine s_iload_n hP t112_41 rfl ?_
                refine s_iconst (v := 3) hP t112_42 (by decide) ?_
                refine s_icmp_le hP t112_43 (fun q43 => ?_) (fun q43 => ?_)
                · refine s_iinc_2 (v := 1) hP t112_48 (by decide) (by exact rfl) ?_
                  refine s_goto hP t112_51 ?_
                  rw [nI_1]
                  exact ih (i + 1) (by omega) (by omega) (fun m hm => by
                    by_cases hmi : m = i
                    · rw [hmi]; exact ⟨hne, (nI_leI (by omega) (by decide)).mp q43⟩
                    · exact hi m (by omega))
                · refine s_iconst (v := 0) hP t112_46 (by decide) ?_
                  refine s_ireturn hP t112_47 rfl rfl ?_
                  exact k false ⟨fun q => (by cases q), fun q => by
                    have q9 := (q.1 i e9).2
                    exact absurd ((nI_leI (by omega) (by decide)).mpr q9) q43⟩
        · refine s_iinc_1 (v := 1) hP t112_20 (by decide) (by exact rfl) ?_
          refine s_aload_n hP t112_23 rfl ?_
          refine s_getfield hP t112_24 rfl rfl ?_
          refine s_iload_n hP t112_27 rfl ?_
          refine s_caload hP t112_28 rfl (vp_in_nI (by omega) (by decide)) ?_
          rw [nI_clamp (by omega)]
          refine s_bipush (v := 101) hP t112_29 (by decide) ?_
          refine s_icmp_ne hP t112_31 (fun q31 => ?_) (fun q31 => ?_)
          · rw [nI_1, show (mw_st (ma 1) i).length + 1 = (mw_st (ma 1) (i + 1)).length by rw [mw_push q17, List.length_cons]]
            have hne : ma 1 i = 101 → ¬ mw_st (ma 1) i = [] := fun q => absurd q q31
            have hl1 := mw_len (kd := ma 1) (i + 1)
            refine s_iload_n hP t112_37 rfl ?_
            refine s_if_lt hP t112_38 (fun q38 => ?_) (fun q38 => ?_)
            · exact absurd q38 (Int32.not_lt.mpr (nI_pos' (by omega)))
            · refine s_iload_n hP t112_41 rfl ?_
              refine s_iconst (v := 3) hP t112_42 (by decide) ?_
              refine s_icmp_le hP t112_43 (fun q43 => ?_) (fun q43 => ?_)
              · refine s_iinc_2 (v := 1) hP t112_48 (by decide) (by exact rfl) ?_
                refine s_goto hP t112_51 ?_
                rw [nI_1]
                exact ih (i + 1) (by omega) (by omega) (fun m hm => by
                  by_cases hmi : m = i
                  · rw [hmi]; exact ⟨hne, (nI_leI (by omega) (by decide)).mp q43⟩
                  · exact hi m (by omega))
              · refine s_iconst (v := 0) hP t112_46 (by decide) ?_
                refine s_ireturn hP t112_47 rfl rfl ?_
                exact k false ⟨fun q => (by cases q), fun q => by
                  have q9 := (q.1 i e9).2
                  exact absurd ((nI_leI (by omega) (by decide)).mpr q9) q43⟩
          · exact absurd q17 (mw_op_no q31)
  refine s_iconst (v := 0) hP t112_0 (by decide) ?_
  refine s_istore_n_1 hP t112_1 (by exact rfl) ?_
  refine s_iconst (v := 0) hP t112_2 (by decide) ?_
  refine s_istore_n_2 hP t112_3 (by exact rfl) ?_
  exact loop (n + 1) 0 (by omega) (by omega) (fun m hm => by omega)
set_option maxHeartbeats 2000000 in
theorem sp114 {d : Nat} {K : am_K} {ha : Nat → Nat → Int32} {hz : Int32} {a1 : Nat → Nat → Int32} {s1 : Nat → Int32} {t1 : UInt32} {a2 : Nat → Nat → Int32} {s2 : Nat → Int32} {t2 : UInt32} {al : Int32} {ma : Nat → Nat → Int32} {ms : Nat → Int32} {mt : UInt32} {ol : Nat → Int64} {od : Nat → UInt64} {N j : Nat} (hc : mw_cl (ma 1) N j) (hj9 : j < 64) (hop : mi_op (ma 1 N) = true) (k9 : K (some (.int (nI j))) (am_W ha hz a1 s1 t1 a2 s2 t2 al ma ms mt ol od)) : am_Run (d + 2) 114 [.ref 39, .int (nI N)] (am_W ha hz a1 s1 t1 a2 s2 t2 al ma ms mt ol od) K := by
  refine ⟨rfl, fun P hm hP => ?_⟩
  show P 0 [some (.ref 39), some (.int (nI N)), none, none] [] _ 0 0
  obtain ⟨hNj, -, -, -⟩ := id hc
  have done : P 4 [some (.ref 39), some (.int (nI N)), some (.int (nI 0)), some (.int (nI j))] [] (am_W ha hz a1 s1 t1 a2 s2 t2 al ma ms mt ol od) 0 0 := by
    refine s_iload_n hP t114_4 rfl ?_
    refine s_if_le hP t114_5 (fun q5 => ?_) (fun q5 => ?_)
    · refine s_iload_n hP t114_45 rfl ?_
      refine s_ireturn hP t114_46 rfl rfl ?_
      exact k9
    · exact absurd (Int32.le_refl _) q5
  have loop : ∀ (m k : Nat) (l : List Nat), j ≤ k + m → N ≤ k → k < j → mw_st (ma 1) (k + 1) = l ++ N :: mw_st (ma 1) N → P 4 [some (.ref 39), some (.int (nI N)), some (.int (nI (l.length + 1))), some (.int (nI k))] [] (am_W ha hz a1 s1 t1 a2 s2 t2 al ma ms mt ol od) 0 0 := by
    intro m
    induction m with
    | zero => intro k l h3 h4 h5; omega
    | succ m ih =>
      intro k l h3 h4 h5 hs
      have hlen : l.length ≤ 64 := by
        have := mw_len (kd := ma 1) (k + 1)
        rw [hs, List.length_append] at this
        omega
      refine s_iload_n hP t114_4 rfl ?_
      refine s_if_le hP t114_5 (fun q5 => ?_) (fun q5 => ?_)
      · exact absurd ((nI_leI (b := 0) (by omega) (by decide)).mp q5) (by omega)
      · refine s_iinc_3 (v := 1) hP t114_8 (by decide) (by exact rfl) ?_
        rw [nI_1]
        refine s_iload_n hP t114_11 rfl ?_
        refine s_aload_n hP t114_12 rfl ?_
        refine s_iload_n hP t114_13 rfl ?_
        refine s_invokevirtual (bc' := 0) (bs' := 0) hP t114_14 rfl rfl rfl rfl rfl ?_
        refine sp111 (by omega) ?_
        refine s_zeq hP t114_17 (fun q17 => ?_) (fun q17 => ?_)
        · have q17 : ¬ mi_op (ma 1 (k + 1)) = true := by rw [q17]; decide
          refine s_aload_n hP t114_24 rfl ?_
          refine s_getfield hP t114_25 rfl rfl ?_
          refine s_iload_n hP t114_28 rfl ?_
          refine s_caload hP t114_29 rfl (vp_in_nI (by omega) (by decide)) ?_
          rw [nI_clamp (by omega)]
          refine s_bipush (v := 101) hP t114_30 (by decide) ?_
          refine s_icmp_ne hP t114_32 (fun q32 => ?_) (fun q32 => ?_)
          · refine s_iconst (v := 0) hP t114_39 (by decide) ?_
            refine s_iadd hP t114_40 ?_
            refine s_istore_n_2 hP t114_41 (by exact rfl) ?_
            refine s_goto hP t114_42 ?_
            rw [show nI (l.length + 1) + 0 = nI (l.length + 1) from nI_add _ 0]
            exact ih (k + 1) l (by omega) (by omega) (by by_cases hj9 : k + 1 = j
                                                         · exact absurd (by rw [hj9]; exact hc.2.1) q32
                                                         · omega) (by rw [mw_same q17 q32, hs])
          · refine s_iconst (v := (-1)) hP t114_35 (by decide) ?_
            refine s_goto hP t114_36 ?_
            refine s_iadd hP t114_40 ?_
            refine s_istore_n_2 hP t114_41 (by exact rfl) ?_
            refine s_goto hP t114_42 ?_
            rw [nI_m1]
            cases l with
            | nil =>
              obtain hj : k + 1 = j := mw_cl_uniq hc (by omega) (by omega) q32 hs
              rw [hj]
              exact done
            | cons x l =>
              exact ih (k + 1) l (by omega) (by omega) (by by_cases hj9 : k + 1 = j
                                                           · rw [hj9, hc.2.2.1] at hs
                                                             have h12 := congrArg List.length hs
                                                             rw [List.length_append, List.length_cons, List.length_cons] at h12
                                                             omega
                                                           · omega) (by rw [mw_pop q32, hs]; rfl)
        · refine s_iconst (v := 1) hP t114_20 (by decide) ?_
          refine s_goto hP t114_21 ?_
          refine s_iadd hP t114_40 ?_
          refine s_istore_n_2 hP t114_41 (by exact rfl) ?_
          refine s_goto hP t114_42 ?_
          rw [nI_1]
          exact ih (k + 1) ((k + 1) :: l) (by omega) (by omega) (by by_cases hj9 : k + 1 = j
                                                                    · exact absurd q17 (mw_op_no (by rw [hj9]; exact hc.2.1))
                                                                    · omega) (by rw [mw_push q17, hs]; rfl)
  refine s_iconst (v := 1) hP t114_0 (by decide) ?_
  refine s_istore_n_2 hP t114_1 (by exact rfl) ?_
  refine s_iload_n hP t114_2 rfl ?_
  refine s_istore_n_3 hP t114_3 (by exact rfl) ?_
  exact loop j N [] (by omega) (Nat.le_refl _) hNj (by rw [mw_push hop]; rfl)
set_option maxHeartbeats 2000000 in
theorem sp115 {d : Nat} {K : am_K} {ha : Nat → Nat → Int32} {hz : Int32} {a1 : Nat → Nat → Int32} {s1 : Nat → Int32} {t1 : UInt32} {a2 : Nat → Nat → Int32} {s2 : Nat → Int32} {t2 : UInt32} {al : Int32} {ma : Nat → Nat → Int32} {ms : Nat → Int32} {mt : UInt32} {ol : Nat → Int64} {od : Nat → UInt64} {p j : Nat} (hc : mw_cl (ma 1) p j) (hj9 : j < 64) (hop : mi_op (ma 1 p) = true) (hok : mw_ok (ma 1) j) (k9 : K (some (.int (nI p))) (am_W ha hz a1 s1 t1 a2 s2 t2 al ma ms mt ol od)) : am_Run (d + 2) 115 [.ref 39, .int (nI j)] (am_W ha hz a1 s1 t1 a2 s2 t2 al ma ms mt ol od) K := by
  refine ⟨rfl, fun P hm hP => ?_⟩
  show P 0 [some (.ref 39), some (.int (nI j)), none, none] [] _ 0 0
  obtain ⟨hpj, -, hsj, -⟩ := id hc
  have done : P 4 [some (.ref 39), some (.int (nI j)), some (.int (nI 0)), some (.int (nI p))] [] (am_W ha hz a1 s1 t1 a2 s2 t2 al ma ms mt ol od) 0 0 := by
    refine s_iload_n hP t115_4 rfl ?_
    refine s_if_le hP t115_5 (fun q5 => ?_) (fun q5 => ?_)
    · refine s_iload_n hP t115_45 rfl ?_
      refine s_ireturn hP t115_46 rfl rfl ?_
      exact k9
    · exact absurd (Int32.le_refl _) q5
  have loop : ∀ (k : Nat) (l : List Nat), k ≤ 64 → k ≤ j → p < k → mw_st (ma 1) k = l ++ p :: mw_st (ma 1) p → P 4 [some (.ref 39), some (.int (nI j)), some (.int (nI (l.length + 1))), some (.int (nI k))] [] (am_W ha hz a1 s1 t1 a2 s2 t2 al ma ms mt ol od) 0 0 := by
    intro k
    induction k with
    | zero => intro l h3 h4 h5; omega
    | succ k ih =>
      intro l h3 h4 h5 hs
      have hlen : l.length ≤ 64 := by
        have := mw_len (kd := ma 1) (k + 1)
        rw [hs, List.length_append] at this
        omega
      refine s_iload_n hP t115_4 rfl ?_
      refine s_if_le hP t115_5 (fun q5 => ?_) (fun q5 => ?_)
      · exact absurd ((nI_leI (b := 0) (by omega) (by decide)).mp q5) (by omega)
      · refine s_iinc_3 (v := (-1)) hP t115_8 (by decide) (by exact rfl) ?_
        rw [nI_m1]
        refine s_iload_n hP t115_11 rfl ?_
        refine s_aload_n hP t115_12 rfl ?_
        refine s_getfield hP t115_13 rfl rfl ?_
        refine s_iload_n hP t115_16 rfl ?_
        refine s_caload hP t115_17 rfl (vp_in_nI (by omega) (by decide)) ?_
        rw [nI_clamp (by omega)]
        refine s_bipush (v := 101) hP t115_18 (by decide) ?_
        refine s_icmp_ne hP t115_20 (fun q20 => ?_) (fun q20 => ?_)
        · refine s_aload_n hP t115_27 rfl ?_
          refine s_iload_n hP t115_28 rfl ?_
          refine s_invokevirtual (bc' := 0) (bs' := 0) hP t115_29 rfl rfl rfl rfl rfl ?_
          refine sp111 (by omega) ?_
          refine s_zeq hP t115_32 (fun q32 => ?_) (fun q32 => ?_)
          · have q32 : ¬ mi_op (ma 1 k) = true := by rw [q32]; decide
            refine s_iconst (v := 0) hP t115_39 (by decide) ?_
            refine s_iadd hP t115_40 ?_
            refine s_istore_n_2 hP t115_41 (by exact rfl) ?_
            refine s_goto hP t115_42 ?_
            rw [show nI (l.length + 1) + 0 = nI (l.length + 1) from nI_add _ 0]
            exact ih l (by omega) (by omega) (by by_cases hkp : k = p
                                                 · exact absurd (by rw [hkp]; exact hop) q32
                                                 · omega) (by rw [← hs, mw_same q32 q20])
          · refine s_iconst (v := (-1)) hP t115_35 (by decide) ?_
            refine s_goto hP t115_36 ?_
            refine s_iadd hP t115_40 ?_
            refine s_istore_n_2 hP t115_41 (by exact rfl) ?_
            refine s_goto hP t115_42 ?_
            rw [nI_m1]
            rw [mw_push q32] at hs
            cases l with
            | nil =>
              rw [List.nil_append] at hs
              injection hs with h7 h8
              rw [h7]
              exact done
            | cons x l =>
              rw [List.cons_append] at hs
              injection hs with h7 h8
              exact ih l (by omega) (by omega) (by by_cases hkp : k = p
                                                   · have h12 := congrArg List.length h8
                                                     rw [hkp, List.length_append, List.length_cons] at h12
                                                     omega
                                                   · omega) h8
        · refine s_iconst (v := 1) hP t115_23 (by decide) ?_
          refine s_goto hP t115_24 ?_
          refine s_iadd hP t115_40 ?_
          refine s_istore_n_2 hP t115_41 (by exact rfl) ?_
          refine s_goto hP t115_42 ?_
          rw [nI_1]
          obtain ⟨x, hx⟩ : ∃ x, mw_st (ma 1) k = x :: mw_st (ma 1) (k + 1) := by
            rw [mw_pop q20]
            cases h9 : mw_st (ma 1) k with
            | nil => exact absurd h9 ((hok k (by omega)).1 q20)
            | cons x t => exact ⟨x, rfl⟩
          exact ih (x :: l) (by omega) (by omega) (by by_cases hkp : k = p
                                                      · exact absurd hop (mw_op_no (by rw [← hkp]; exact q20))
                                                      · omega) (by rw [hx, hs]; rfl)
  refine s_iconst (v := 1) hP t115_0 (by decide) ?_
  refine s_istore_n_2 hP t115_1 (by exact rfl) ?_
  refine s_iload_n hP t115_2 rfl ?_
  refine s_istore_n_3 hP t115_3 (by exact rfl) ?_
  exact loop j [] (by omega) (Nat.le_refl _) hpj hsj
