/-! THE MODEL: a block that moves, whole. (rows by gen/sp27.py) -/
noncomputable def mz_al (ha : Nat → Nat → Int32) (us : Nat → Int32) (k a b c9 sl sp : Int32) (S T : Nat → Bool) (s R X Y Z : Nat) (es : List ml_L) : Int32 :=
  if mc_told ha k a b c9 = false then 110
  else if ¬ mc_tool ha us k a b sl sp = 45 then mc_tool ha us k a b sl sp
  else me_cell k sl S T s R X Y Z es
theorem mz_1 {ha : Nat → Nat → Int32} {us : Nat → Int32} {k a b c9 sl sp : Int32} {S T : Nat → Bool} {s R X Y Z : Nat} {es : List ml_L} (h : mc_told ha k a b c9 = false) : mz_al ha us k a b c9 sl sp S T s R X Y Z es = 110 := by rw [mz_al, if_pos h]
theorem mz_2 {ha : Nat → Nat → Int32} {us : Nat → Int32} {k a b c9 sl sp : Int32} {S T : Nat → Bool} {s R X Y Z : Nat} {es : List ml_L} {v : Int32} (h : mc_told ha k a b c9 = true) (h2 : mc_tool ha us k a b sl sp = v) (hv : ¬ v = 45) : mz_al ha us k a b c9 sl sp S T s R X Y Z es = v := by rw [mz_al, if_neg (by rw [h]; decide), if_pos (by rw [h2]; exact hv), h2]
theorem mz_3 {ha : Nat → Nat → Int32} {us : Nat → Int32} {k a b c9 sl sp : Int32} {S T : Nat → Bool} {s R X Y Z : Nat} {es : List ml_L} (h : mc_told ha k a b c9 = true) (h2 : mc_tool ha us k a b sl sp = 45) : mz_al ha us k a b c9 sl sp S T s R X Y Z es = me_cell k sl S T s R X Y Z es := by rw [mz_al, if_neg (by rw [h]; decide), if_neg (fun q => q h2)]
theorem mc_worn_c {ha : Nat → Nat → Int32} {us li : Nat → Int32} {c : Nat} (hc : c < 12) (hli : ∀ c, c < 12 → li c = ha 2 c) : mc_worn (ha 2) us (nI c) = decide (li c ≤ us c) := by
  rw [mc_worn, mi_iw11 (by omega), Bool.true_and, nI_clamp (by omega), hli c hc]
theorem mc_tool_119 {ha : Nat → Nat → Int32} {us : Nat → Int32} {k a b sl sp : Int32} (hk : mc_cut k = true) (h1 : ¬ sl = -1) (h2 : mc_worn (ha 2) us sl = true) : mc_tool ha us k a b sl sp = 119 := by
  rw [mc_tool, if_neg (fun q => by subst q; exact absurd hk (by decide)), if_pos ⟨hk, h1, h2⟩]
theorem mc_tool_115 {ha : Nat → Nat → Int32} {us : Nat → Int32} {k a b sl sp : Int32} (hk : mc_cut k = true) (h1 : ¬ sl = -1 → mc_worn (ha 2) us sl = false) (h2 : sl = -1 ∨ sp = 0) : mc_tool ha us k a b sl sp = 115 := by
  rw [mc_tool, if_neg (fun q => by subst q; exact absurd hk (by decide)), if_neg (fun q => by rw [h1 q.2.1] at q; exact absurd q.2.2 (by decide)), if_pos (h2.imp (fun q => ⟨Or.inl hk, q⟩) (fun q => ⟨hk, q⟩))]
theorem mc_tool_45 {ha : Nat → Nat → Int32} {us : Nat → Int32} {k a b sl sp : Int32} (hk : mc_cut k = true) (h0 : ¬ sl = -1) (h1 : mc_worn (ha 2) us sl = false) (h2 : ¬ sp = 0) : mc_tool ha us k a b sl sp = 45 := by
  rw [mc_tool, if_neg (fun q => by subst q; exact absurd hk (by decide)), if_neg (fun q => by rw [h1] at q; exact absurd q.2.2 (by decide)), if_neg (by
    rintro (⟨-, q⟩ | ⟨-, q⟩)
    · exact h0 q
    · exact h2 q)]
set_option maxHeartbeats 4000000 in
theorem sp126_103 {d : Nat} {K : am_K} {ha : Nat → Nat → Int32} {hz : Int32} {a1 : Nat → Nat → Int32} {s1 : Nat → Int32} {t1 : UInt32} {a2 : Nat → Nat → Int32} {s2 : Nat → Int32} {t2 : UInt32} {al : Int32} {ma : Nat → Nat → Int32} {ms : Nat → Int32} {mt : UInt32} {ol : Nat → Int64} {od : Nat → UInt64} {T : Nat → Bool} {c s R X Y Z : Nat} {k a b c9 : Int32} {es : List ml_L} (hes : es = ml_legs k a b c9 (ma 11 0) (ma 11 1) (ma 11 2) (mk_b ma ms 0) (mk_b ma ms 1) (mk_b ma ms 2)) (hk : k = 103 ∨ k = 108 ∨ k = 100 ∨ k = 112) (hB : mg_B ma) (hT : ∀ q, q < 1152 → ma 13 q = am_b (T q)) (hm1 : ms 19 = -1 ∨ mg_req ma ms c s R) (hof : ms 22 = 0 → ∃ O, ms 21 = nI O ∧ O < 4) (hli : ∀ c, c < 12 → ma 3 c = ha 2 c) (hb1 : mi_iw a (-50) 50 = true) (hb2 : mi_iw b (-50) 50 = true) (hb3 : mi_iw c9 (-50) 50 = true) (hfew : mc_told ha k a b c9 = true → ∀ e ∈ es, mg_few e) (hin : mc_told ha k a b c9 = true → (∀ e ∈ es, ml_ins e = true) → ∀ e ∈ es, ml_inn e) (hout : mc_told ha k a b c9 = true → (∀ e ∈ es, ∀ i, 1 ≤ i → i ≤ ml_N e → mg_at e i = true) → ∀ e ∈ es, ml_ins e = true) (htm : mc_told ha k a b c9 = true → (∀ e ∈ es, ml_inn e) → vf_n32 (mg_f (mc_cut k) (ms 20)) ∧ ml_tok (mg_f (mc_cut k) (ms 20)) es mt) (ka : ∀ (mb : Nat → Nat → Int32) (ms9 : Nat → Int32), ¬ (mz_al ha (ma 4) k a b c9 (ms 19) (ms 23) (mg_S ma) T s R X Y Z es) = 45 → (∀ i, i ≠ 12 → mb i = ma i) → (∀ j, j ≠ 26 → ms9 j = ms j) → K (some (.int ((mz_al ha (ma 4) k a b c9 (ms 19) (ms 23) (mg_S ma) T s R X Y Z es)))) (am_W ha hz a1 s1 t1 a2 s2 t2 al mb ms9 mt ol od)) (kf : ∀ (mb : Nat → Nat → Int32) (ms9 : Nat → Int32), (mz_al ha (ma 4) k a b c9 (ms 19) (ms 23) (mg_S ma) T s R X Y Z es) = 45 → (∀ i, i ≠ 4 → i ≠ 11 → i ≠ 12 → i ≠ 14 → mb i = ma i) → (∀ j, j ≠ 26 → ms9 j = ms j) → mg_B mb → (∀ q, q < 1152 → mg_S mb q = (if mc_cut k = true then ml_cut s R (ml_all es) (mg_S ma) else mg_S ma) q) → mb 4 = (if mc_cut k = true then upd (ma 4) (ms 19).toNatClampNeg (ma 4 (ms 19).toNatClampNeg + nI (ml_cc s R (ml_all es) (mg_S ma))) else ma 4) → mb 11 0 = ml_ex k a b (ma 11 0) (mk_b ma ms 0) → mb 11 1 = ml_ey k b (ma 11 1) (mk_b ma ms 1) → mb 11 2 = ml_ez k c9 (ma 11 2) (mk_b ma ms 2) → K (some (.int 45)) (am_W ha hz a1 s1 t1 a2 s2 t2 al mb ms9 (ml_tm (mg_f (mc_cut k) (ms 20)) es mt) ol od))(hk9 : k = 103) : am_Run (d + 6) 126 [.ref 39, .int k, .int a, .int b, .int c9] (am_W ha hz a1 s1 t1 a2 s2 t2 al ma ms mt ol od) K := by
  subst hk9
  have ka1 : mc_told ha 103 a b c9 = false → K (some (.int 110)) (am_W ha hz a1 s1 t1 a2 s2 t2 al ma ms mt ol od) := fun h => by
    rw [mz_1 h] at ka
    exact ka ma ms (by decide) (fun _ _ => rfl) (fun _ _ => rfl)
  have ka2 : mc_told ha 103 a b c9 = true → ∀ v, mc_tool ha (ma 4) 103 a b (ms 19) (ms 23) = v → ¬ v = 45 → K (some (.int v)) (am_W ha hz a1 s1 t1 a2 s2 t2 al ma ms mt ol od) := fun h v h2 h3 => by
    rw [mz_2 h h2 h3] at ka
    exact ka ma ms h3 (fun _ _ => rfl) (fun _ _ => rfl)
  refine ⟨rfl, fun P hm hP => ?_⟩
  show P 0 [some (.ref 39), some (.int 103), some (.int a), some (.int b), some (.int c9), none] [] _ 0 0
  refine s_iload_n hP t126_0 rfl ?_
  refine s_bipush (v := 100) hP t126_1 (by decide) ?_
  refine s_icmp_ne hP t126_3 (fun q3 => ?_) (fun q3 => ?_)
  · refine s_iload_n hP t126_15 rfl ?_
    refine s_bipush (v := 112) hP t126_16 (by decide) ?_
    refine s_icmp_ne hP t126_18 (fun q18 => ?_) (fun q18 => ?_)
    · refine s_iload_n hP t126_37 rfl ?_
      refine s_bipush (v := 103) hP t126_38 (by decide) ?_
      refine s_icmp_eq hP t126_40 (fun q40 => ?_) (fun q40 => ?_)
      · refine s_iload_n hP t126_64 rfl ?_
        refine s_bipush (v := 103) hP t126_65 (by decide) ?_
        refine s_icmp_eq hP t126_67 (fun q67 => ?_) (fun q67 => ?_)
        · have ht : mc_told ha 103 a b c9 = true := rfl
          have htool : mc_tool ha (ma 4) 103 a b (ms 19) (ms 23) = 45 := (by rw [mc_tool, if_neg (by decide), if_neg (fun q => absurd q.1 (by decide)), if_neg (by
            rintro (⟨q | q, -⟩ | ⟨q, -⟩)
            · exact absurd q (by decide)
            · exact absurd q (by decide)
            · exact absurd q (by decide))])
          rw [mz_3 ht htool] at ka kf
          exact sp126_87 hes hk hB hT hm1 hof (hfew ht) (hin ht) (hout ht) (htm ht) (fun q => mc_told_100 q ht hb1 hb2) (fun q => mc_told_112 q ht hb1 hb2 hb3) (fun q => absurd q (by decide)) ka kf P hm hP
        · exact absurd rfl q67
      · exact absurd rfl q40
    · exact absurd q18 (by decide)
  · exact absurd q3 (by decide)
set_option maxHeartbeats 4000000 in
theorem sp126_108 {d : Nat} {K : am_K} {ha : Nat → Nat → Int32} {hz : Int32} {a1 : Nat → Nat → Int32} {s1 : Nat → Int32} {t1 : UInt32} {a2 : Nat → Nat → Int32} {s2 : Nat → Int32} {t2 : UInt32} {al : Int32} {ma : Nat → Nat → Int32} {ms : Nat → Int32} {mt : UInt32} {ol : Nat → Int64} {od : Nat → UInt64} {T : Nat → Bool} {c s R X Y Z : Nat} {k a b c9 : Int32} {es : List ml_L} (hes : es = ml_legs k a b c9 (ma 11 0) (ma 11 1) (ma 11 2) (mk_b ma ms 0) (mk_b ma ms 1) (mk_b ma ms 2)) (hk : k = 103 ∨ k = 108 ∨ k = 100 ∨ k = 112) (hB : mg_B ma) (hT : ∀ q, q < 1152 → ma 13 q = am_b (T q)) (hm1 : ms 19 = -1 ∨ mg_req ma ms c s R) (hof : ms 22 = 0 → ∃ O, ms 21 = nI O ∧ O < 4) (hli : ∀ c, c < 12 → ma 3 c = ha 2 c) (hb1 : mi_iw a (-50) 50 = true) (hb2 : mi_iw b (-50) 50 = true) (hb3 : mi_iw c9 (-50) 50 = true) (hfew : mc_told ha k a b c9 = true → ∀ e ∈ es, mg_few e) (hin : mc_told ha k a b c9 = true → (∀ e ∈ es, ml_ins e = true) → ∀ e ∈ es, ml_inn e) (hout : mc_told ha k a b c9 = true → (∀ e ∈ es, ∀ i, 1 ≤ i → i ≤ ml_N e → mg_at e i = true) → ∀ e ∈ es, ml_ins e = true) (htm : mc_told ha k a b c9 = true → (∀ e ∈ es, ml_inn e) → vf_n32 (mg_f (mc_cut k) (ms 20)) ∧ ml_tok (mg_f (mc_cut k) (ms 20)) es mt) (ka : ∀ (mb : Nat → Nat → Int32) (ms9 : Nat → Int32), ¬ (mz_al ha (ma 4) k a b c9 (ms 19) (ms 23) (mg_S ma) T s R X Y Z es) = 45 → (∀ i, i ≠ 12 → mb i = ma i) → (∀ j, j ≠ 26 → ms9 j = ms j) → K (some (.int ((mz_al ha (ma 4) k a b c9 (ms 19) (ms 23) (mg_S ma) T s R X Y Z es)))) (am_W ha hz a1 s1 t1 a2 s2 t2 al mb ms9 mt ol od)) (kf : ∀ (mb : Nat → Nat → Int32) (ms9 : Nat → Int32), (mz_al ha (ma 4) k a b c9 (ms 19) (ms 23) (mg_S ma) T s R X Y Z es) = 45 → (∀ i, i ≠ 4 → i ≠ 11 → i ≠ 12 → i ≠ 14 → mb i = ma i) → (∀ j, j ≠ 26 → ms9 j = ms j) → mg_B mb → (∀ q, q < 1152 → mg_S mb q = (if mc_cut k = true then ml_cut s R (ml_all es) (mg_S ma) else mg_S ma) q) → mb 4 = (if mc_cut k = true then upd (ma 4) (ms 19).toNatClampNeg (ma 4 (ms 19).toNatClampNeg + nI (ml_cc s R (ml_all es) (mg_S ma))) else ma 4) → mb 11 0 = ml_ex k a b (ma 11 0) (mk_b ma ms 0) → mb 11 1 = ml_ey k b (ma 11 1) (mk_b ma ms 1) → mb 11 2 = ml_ez k c9 (ma 11 2) (mk_b ma ms 2) → K (some (.int 45)) (am_W ha hz a1 s1 t1 a2 s2 t2 al mb ms9 (ml_tm (mg_f (mc_cut k) (ms 20)) es mt) ol od))(hk9 : k = 108) : am_Run (d + 6) 126 [.ref 39, .int k, .int a, .int b, .int c9] (am_W ha hz a1 s1 t1 a2 s2 t2 al ma ms mt ol od) K := by
  subst hk9
  have ka1 : mc_told ha 108 a b c9 = false → K (some (.int 110)) (am_W ha hz a1 s1 t1 a2 s2 t2 al ma ms mt ol od) := fun h => by
    rw [mz_1 h] at ka
    exact ka ma ms (by decide) (fun _ _ => rfl) (fun _ _ => rfl)
  have ka2 : mc_told ha 108 a b c9 = true → ∀ v, mc_tool ha (ma 4) 108 a b (ms 19) (ms 23) = v → ¬ v = 45 → K (some (.int v)) (am_W ha hz a1 s1 t1 a2 s2 t2 al ma ms mt ol od) := fun h v h2 h3 => by
    rw [mz_2 h h2 h3] at ka
    exact ka ma ms h3 (fun _ _ => rfl) (fun _ _ => rfl)
  refine ⟨rfl, fun P hm hP => ?_⟩
  show P 0 [some (.ref 39), some (.int 108), some (.int a), some (.int b), some (.int c9), none] [] _ 0 0
  refine s_iload_n hP t126_0 rfl ?_
  refine s_bipush (v := 100) hP t126_1 (by decide) ?_
  refine s_icmp_ne hP t126_3 (fun q3 => ?_) (fun q3 => ?_)
  · refine s_iload_n hP t126_15 rfl ?_
    refine s_bipush (v := 112) hP t126_16 (by decide) ?_
    refine s_icmp_ne hP t126_18 (fun q18 => ?_) (fun q18 => ?_)
    · refine s_iload_n hP t126_37 rfl ?_
      refine s_bipush (v := 103) hP t126_38 (by decide) ?_
      refine s_icmp_eq hP t126_40 (fun q40 => ?_) (fun q40 => ?_)
      · exact absurd q40 (by decide)
      · refine s_aload_n hP t126_43 rfl ?_
        refine s_getfield hP t126_44 rfl rfl ?_
        refine s_if_lt hP t126_47 (fun q47 => ?_) (fun q47 => ?_)
        · have e47 : ms 19 = -1 := hm1.resolve_right (fun q => by
            rw [q.1] at q47
            exact absurd (nI_pos' (n := c) (by have := q.2.1; omega)) (Int32.not_le.mpr q47))
          refine s_iload_n hP t126_64 rfl ?_
          refine s_bipush (v := 103) hP t126_65 (by decide) ?_
          refine s_icmp_eq hP t126_67 (fun q67 => ?_) (fun q67 => ?_)
          · exact absurd q67 (by decide)
          · refine s_aload_n hP t126_70 rfl ?_
            refine s_getfield hP t126_71 rfl rfl ?_
            refine s_if_lt hP t126_74 (fun q74 => ?_) (fun q74 => ?_)
            · refine s_bipush (v := 115) hP t126_84 (by decide) ?_
              refine s_ireturn hP t126_86 rfl rfl ?_
              exact ka2 (rfl) 115 (mc_tool_115 rfl (fun q => absurd e47 q) (Or.inl e47)) (by decide)
            · exact absurd (by rw [e47]; decide) q74
        · have e47 : ¬ ms 19 = -1 := fun q => q47 (by rw [q]; decide)
          have hq := hm1.resolve_left e47
          have hw := mc_worn_c (us := ma 4) hq.2.1 hli
          rw [← hq.1] at hw
          refine s_aload_n hP t126_50 rfl ?_
          refine s_aload_n hP t126_51 rfl ?_
          refine s_getfield hP t126_52 rfl rfl ?_
          refine s_invokevirtual (bc' := 0) (bs' := 0) hP t126_55 rfl rfl rfl rfl rfl ?_
          rw [hq.1]
          refine sp125 hq.2.1 ?_
          refine s_zeq hP t126_58 (fun q58 => ?_) (fun q58 => ?_)
          · have e58 : mc_worn (ha 2) (ma 4) (ms 19) = false := hw.trans q58
            refine s_iload_n hP t126_64 rfl ?_
            refine s_bipush (v := 103) hP t126_65 (by decide) ?_
            refine s_icmp_eq hP t126_67 (fun q67 => ?_) (fun q67 => ?_)
            · exact absurd q67 (by decide)
            · refine s_aload_n hP t126_70 rfl ?_
              refine s_getfield hP t126_71 rfl rfl ?_
              refine s_if_lt hP t126_74 (fun q74 => ?_) (fun q74 => ?_)
              · exact absurd q74 q47
              · refine s_aload_n hP t126_77 rfl ?_
                refine s_getfield hP t126_78 rfl rfl ?_
                refine s_if_ne hP t126_81 (fun q81 => ?_) (fun q81 => ?_)
                · have ht : mc_told ha 108 a b c9 = true := rfl
                  have htool : mc_tool ha (ma 4) 108 a b (ms 19) (ms 23) = 45 := (mc_tool_45 rfl e47 e58 q81)
                  rw [mz_3 ht htool] at ka kf
                  exact sp126_87 hes hk hB hT hm1 hof (hfew ht) (hin ht) (hout ht) (htm ht) (fun q => mc_told_100 q ht hb1 hb2) (fun q => mc_told_112 q ht hb1 hb2 hb3) (fun _ => e47) ka kf P hm hP
                · refine s_bipush (v := 115) hP t126_84 (by decide) ?_
                  refine s_ireturn hP t126_86 rfl rfl ?_
                  exact ka2 (rfl) 115 (mc_tool_115 rfl (fun _ => e58) (Or.inr q81)) (by decide)
          · have e58 : mc_worn (ha 2) (ma 4) (ms 19) = true := hw.trans q58
            refine s_bipush (v := 119) hP t126_61 (by decide) ?_
            refine s_ireturn hP t126_63 rfl rfl ?_
            exact ka2 (rfl) 119 (mc_tool_119 rfl e47 e58) (by decide)
    · exact absurd q18 (by decide)
  · exact absurd q3 (by decide)
set_option maxHeartbeats 4000000 in
theorem sp126_100 {d : Nat} {K : am_K} {ha : Nat → Nat → Int32} {hz : Int32} {a1 : Nat → Nat → Int32} {s1 : Nat → Int32} {t1 : UInt32} {a2 : Nat → Nat → Int32} {s2 : Nat → Int32} {t2 : UInt32} {al : Int32} {ma : Nat → Nat → Int32} {ms : Nat → Int32} {mt : UInt32} {ol : Nat → Int64} {od : Nat → UInt64} {T : Nat → Bool} {c s R X Y Z : Nat} {k a b c9 : Int32} {es : List ml_L} (hes : es = ml_legs k a b c9 (ma 11 0) (ma 11 1) (ma 11 2) (mk_b ma ms 0) (mk_b ma ms 1) (mk_b ma ms 2)) (hk : k = 103 ∨ k = 108 ∨ k = 100 ∨ k = 112) (hB : mg_B ma) (hT : ∀ q, q < 1152 → ma 13 q = am_b (T q)) (hm1 : ms 19 = -1 ∨ mg_req ma ms c s R) (hof : ms 22 = 0 → ∃ O, ms 21 = nI O ∧ O < 4) (hli : ∀ c, c < 12 → ma 3 c = ha 2 c) (hb1 : mi_iw a (-50) 50 = true) (hb2 : mi_iw b (-50) 50 = true) (hb3 : mi_iw c9 (-50) 50 = true) (hfew : mc_told ha k a b c9 = true → ∀ e ∈ es, mg_few e) (hin : mc_told ha k a b c9 = true → (∀ e ∈ es, ml_ins e = true) → ∀ e ∈ es, ml_inn e) (hout : mc_told ha k a b c9 = true → (∀ e ∈ es, ∀ i, 1 ≤ i → i ≤ ml_N e → mg_at e i = true) → ∀ e ∈ es, ml_ins e = true) (htm : mc_told ha k a b c9 = true → (∀ e ∈ es, ml_inn e) → vf_n32 (mg_f (mc_cut k) (ms 20)) ∧ ml_tok (mg_f (mc_cut k) (ms 20)) es mt) (ka : ∀ (mb : Nat → Nat → Int32) (ms9 : Nat → Int32), ¬ (mz_al ha (ma 4) k a b c9 (ms 19) (ms 23) (mg_S ma) T s R X Y Z es) = 45 → (∀ i, i ≠ 12 → mb i = ma i) → (∀ j, j ≠ 26 → ms9 j = ms j) → K (some (.int ((mz_al ha (ma 4) k a b c9 (ms 19) (ms 23) (mg_S ma) T s R X Y Z es)))) (am_W ha hz a1 s1 t1 a2 s2 t2 al mb ms9 mt ol od)) (kf : ∀ (mb : Nat → Nat → Int32) (ms9 : Nat → Int32), (mz_al ha (ma 4) k a b c9 (ms 19) (ms 23) (mg_S ma) T s R X Y Z es) = 45 → (∀ i, i ≠ 4 → i ≠ 11 → i ≠ 12 → i ≠ 14 → mb i = ma i) → (∀ j, j ≠ 26 → ms9 j = ms j) → mg_B mb → (∀ q, q < 1152 → mg_S mb q = (if mc_cut k = true then ml_cut s R (ml_all es) (mg_S ma) else mg_S ma) q) → mb 4 = (if mc_cut k = true then upd (ma 4) (ms 19).toNatClampNeg (ma 4 (ms 19).toNatClampNeg + nI (ml_cc s R (ml_all es) (mg_S ma))) else ma 4) → mb 11 0 = ml_ex k a b (ma 11 0) (mk_b ma ms 0) → mb 11 1 = ml_ey k b (ma 11 1) (mk_b ma ms 1) → mb 11 2 = ml_ez k c9 (ma 11 2) (mk_b ma ms 2) → K (some (.int 45)) (am_W ha hz a1 s1 t1 a2 s2 t2 al mb ms9 (ml_tm (mg_f (mc_cut k) (ms 20)) es mt) ol od))(hk9 : k = 100) : am_Run (d + 6) 126 [.ref 39, .int k, .int a, .int b, .int c9] (am_W ha hz a1 s1 t1 a2 s2 t2 al ma ms mt ol od) K := by
  subst hk9
  have ka1 : mc_told ha 100 a b c9 = false → K (some (.int 110)) (am_W ha hz a1 s1 t1 a2 s2 t2 al ma ms mt ol od) := fun h => by
    rw [mz_1 h] at ka
    exact ka ma ms (by decide) (fun _ _ => rfl) (fun _ _ => rfl)
  have ka2 : mc_told ha 100 a b c9 = true → ∀ v, mc_tool ha (ma 4) 100 a b (ms 19) (ms 23) = v → ¬ v = 45 → K (some (.int v)) (am_W ha hz a1 s1 t1 a2 s2 t2 al ma ms mt ol od) := fun h v h2 h3 => by
    rw [mz_2 h h2 h3] at ka
    exact ka ma ms h3 (fun _ _ => rfl) (fun _ _ => rfl)
  refine ⟨rfl, fun P hm hP => ?_⟩
  show P 0 [some (.ref 39), some (.int 100), some (.int a), some (.int b), some (.int c9), none] [] _ 0 0
  refine s_iload_n hP t126_0 rfl ?_
  refine s_bipush (v := 100) hP t126_1 (by decide) ?_
  refine s_icmp_ne hP t126_3 (fun q3 => ?_) (fun q3 => ?_)
  · exact absurd rfl q3
  · refine s_iload_n hP t126_6 rfl ?_
    refine s_if_lt hP t126_7 (fun q7 => ?_) (fun q7 => ?_)
    · refine s_bipush (v := 110) hP t126_34 (by decide) ?_
      refine s_ireturn hP t126_36 rfl rfl ?_
      exact ka1 (by rw [mc_told, if_pos rfl, (decide_eq_false (Int32.not_le.mpr q7) : decide (0 ≤ a) = false)]; simp)
    · refine s_iload_n hP t126_10 rfl ?_
      refine s_iconst (v := 1) hP t126_11 (by decide) ?_
      refine s_icmp_lt hP t126_12 (fun q12 => ?_) (fun q12 => ?_)
      · refine s_bipush (v := 110) hP t126_34 (by decide) ?_
        refine s_ireturn hP t126_36 rfl rfl ?_
        exact ka1 (by rw [mc_told, if_pos rfl, (decide_eq_true (Int32.not_lt.mp q7) : decide (0 ≤ a) = true), (decide_eq_false (Int32.not_le.mpr q12) : decide (1 ≤ b) = false)]; simp)
      · refine s_iload_n hP t126_15 rfl ?_
        refine s_bipush (v := 112) hP t126_16 (by decide) ?_
        refine s_icmp_ne hP t126_18 (fun q18 => ?_) (fun q18 => ?_)
        · refine s_iload_n hP t126_37 rfl ?_
          refine s_bipush (v := 103) hP t126_38 (by decide) ?_
          refine s_icmp_eq hP t126_40 (fun q40 => ?_) (fun q40 => ?_)
          · exact absurd q40 (by decide)
          · refine s_aload_n hP t126_43 rfl ?_
            refine s_getfield hP t126_44 rfl rfl ?_
            refine s_if_lt hP t126_47 (fun q47 => ?_) (fun q47 => ?_)
            · have e47 : ms 19 = -1 := hm1.resolve_right (fun q => by
                rw [q.1] at q47
                exact absurd (nI_pos' (n := c) (by have := q.2.1; omega)) (Int32.not_le.mpr q47))
              refine s_iload_n hP t126_64 rfl ?_
              refine s_bipush (v := 103) hP t126_65 (by decide) ?_
              refine s_icmp_eq hP t126_67 (fun q67 => ?_) (fun q67 => ?_)
              · exact absurd q67 (by decide)
              · refine s_aload_n hP t126_70 rfl ?_
                refine s_getfield hP t126_71 rfl rfl ?_
                refine s_if_lt hP t126_74 (fun q74 => ?_) (fun q74 => ?_)
                · refine s_bipush (v := 115) hP t126_84 (by decide) ?_
                  refine s_ireturn hP t126_86 rfl rfl ?_
                  exact ka2 (by rw [mc_told, if_pos rfl, (decide_eq_true (Int32.not_lt.mp q7) : decide (0 ≤ a) = true), (decide_eq_true (Int32.not_lt.mp q12) : decide (1 ≤ b) = true)]; simp) 115 (mc_tool_115 rfl (fun q => absurd e47 q) (Or.inl e47)) (by decide)
                · exact absurd (by rw [e47]; decide) q74
            · have e47 : ¬ ms 19 = -1 := fun q => q47 (by rw [q]; decide)
              have hq := hm1.resolve_left e47
              have hw := mc_worn_c (us := ma 4) hq.2.1 hli
              rw [← hq.1] at hw
              refine s_aload_n hP t126_50 rfl ?_
              refine s_aload_n hP t126_51 rfl ?_
              refine s_getfield hP t126_52 rfl rfl ?_
              refine s_invokevirtual (bc' := 0) (bs' := 0) hP t126_55 rfl rfl rfl rfl rfl ?_
              rw [hq.1]
              refine sp125 hq.2.1 ?_
              refine s_zeq hP t126_58 (fun q58 => ?_) (fun q58 => ?_)
              · have e58 : mc_worn (ha 2) (ma 4) (ms 19) = false := hw.trans q58
                refine s_iload_n hP t126_64 rfl ?_
                refine s_bipush (v := 103) hP t126_65 (by decide) ?_
                refine s_icmp_eq hP t126_67 (fun q67 => ?_) (fun q67 => ?_)
                · exact absurd q67 (by decide)
                · refine s_aload_n hP t126_70 rfl ?_
                  refine s_getfield hP t126_71 rfl rfl ?_
                  refine s_if_lt hP t126_74 (fun q74 => ?_) (fun q74 => ?_)
                  · exact absurd q74 q47
                  · refine s_aload_n hP t126_77 rfl ?_
                    refine s_getfield hP t126_78 rfl rfl ?_
                    refine s_if_ne hP t126_81 (fun q81 => ?_) (fun q81 => ?_)
                    · have ht : mc_told ha 100 a b c9 = true := by rw [mc_told, if_pos rfl, (decide_eq_true (Int32.not_lt.mp q7) : decide (0 ≤ a) = true), (decide_eq_true (Int32.not_lt.mp q12) : decide (1 ≤ b) = true)]; simp
                      have htool : mc_tool ha (ma 4) 100 a b (ms 19) (ms 23) = 45 := (mc_tool_45 rfl e47 e58 q81)
                      rw [mz_3 ht htool] at ka kf
                      exact sp126_87 hes hk hB hT hm1 hof (hfew ht) (hin ht) (hout ht) (htm ht) (fun q => mc_told_100 q ht hb1 hb2) (fun q => mc_told_112 q ht hb1 hb2 hb3) (fun _ => e47) ka kf P hm hP
                    · refine s_bipush (v := 115) hP t126_84 (by decide) ?_
                      refine s_ireturn hP t126_86 rfl rfl ?_
                      exact ka2 (by rw [mc_told, if_pos rfl, (decide_eq_true (Int32.not_lt.mp q7) : decide (0 ≤ a) = true), (decide_eq_true (Int32.not_lt.mp q12) : decide (1 ≤ b) = true)]; simp) 115 (mc_tool_115 rfl (fun _ => e58) (Or.inr q81)) (by decide)
              · have e58 : mc_worn (ha 2) (ma 4) (ms 19) = true := hw.trans q58
                refine s_bipush (v := 119) hP t126_61 (by decide) ?_
                refine s_ireturn hP t126_63 rfl rfl ?_
                exact ka2 (by rw [mc_told, if_pos rfl, (decide_eq_true (Int32.not_lt.mp q7) : decide (0 ≤ a) = true), (decide_eq_true (Int32.not_lt.mp q12) : decide (1 ≤ b) = true)]; simp) 119 (mc_tool_119 rfl e47 e58) (by decide)
        · exact absurd q18 (by decide)
set_option maxHeartbeats 4000000 in
theorem sp126_112 {d : Nat} {K : am_K} {ha : Nat → Nat → Int32} {hz : Int32} {a1 : Nat → Nat → Int32} {s1 : Nat → Int32} {t1 : UInt32} {a2 : Nat → Nat → Int32} {s2 : Nat → Int32} {t2 : UInt32} {al : Int32} {ma : Nat → Nat → Int32} {ms : Nat → Int32} {mt : UInt32} {ol : Nat → Int64} {od : Nat → UInt64} {T : Nat → Bool} {c s R X Y Z : Nat} {k a b c9 : Int32} {es : List ml_L} (hes : es = ml_legs k a b c9 (ma 11 0) (ma 11 1) (ma 11 2) (mk_b ma ms 0) (mk_b ma ms 1) (mk_b ma ms 2)) (hk : k = 103 ∨ k = 108 ∨ k = 100 ∨ k = 112) (hB : mg_B ma) (hT : ∀ q, q < 1152 → ma 13 q = am_b (T q)) (hm1 : ms 19 = -1 ∨ mg_req ma ms c s R) (hof : ms 22 = 0 → ∃ O, ms 21 = nI O ∧ O < 4) (hli : ∀ c, c < 12 → ma 3 c = ha 2 c) (hb1 : mi_iw a (-50) 50 = true) (hb2 : mi_iw b (-50) 50 = true) (hb3 : mi_iw c9 (-50) 50 = true) (hfew : mc_told ha k a b c9 = true → ∀ e ∈ es, mg_few e) (hin : mc_told ha k a b c9 = true → (∀ e ∈ es, ml_ins e = true) → ∀ e ∈ es, ml_inn e) (hout : mc_told ha k a b c9 = true → (∀ e ∈ es, ∀ i, 1 ≤ i → i ≤ ml_N e → mg_at e i = true) → ∀ e ∈ es, ml_ins e = true) (htm : mc_told ha k a b c9 = true → (∀ e ∈ es, ml_inn e) → vf_n32 (mg_f (mc_cut k) (ms 20)) ∧ ml_tok (mg_f (mc_cut k) (ms 20)) es mt) (ka : ∀ (mb : Nat → Nat → Int32) (ms9 : Nat → Int32), ¬ (mz_al ha (ma 4) k a b c9 (ms 19) (ms 23) (mg_S ma) T s R X Y Z es) = 45 → (∀ i, i ≠ 12 → mb i = ma i) → (∀ j, j ≠ 26 → ms9 j = ms j) → K (some (.int ((mz_al ha (ma 4) k a b c9 (ms 19) (ms 23) (mg_S ma) T s R X Y Z es)))) (am_W ha hz a1 s1 t1 a2 s2 t2 al mb ms9 mt ol od)) (kf : ∀ (mb : Nat → Nat → Int32) (ms9 : Nat → Int32), (mz_al ha (ma 4) k a b c9 (ms 19) (ms 23) (mg_S ma) T s R X Y Z es) = 45 → (∀ i, i ≠ 4 → i ≠ 11 → i ≠ 12 → i ≠ 14 → mb i = ma i) → (∀ j, j ≠ 26 → ms9 j = ms j) → mg_B mb → (∀ q, q < 1152 → mg_S mb q = (if mc_cut k = true then ml_cut s R (ml_all es) (mg_S ma) else mg_S ma) q) → mb 4 = (if mc_cut k = true then upd (ma 4) (ms 19).toNatClampNeg (ma 4 (ms 19).toNatClampNeg + nI (ml_cc s R (ml_all es) (mg_S ma))) else ma 4) → mb 11 0 = ml_ex k a b (ma 11 0) (mk_b ma ms 0) → mb 11 1 = ml_ey k b (ma 11 1) (mk_b ma ms 1) → mb 11 2 = ml_ez k c9 (ma 11 2) (mk_b ma ms 2) → K (some (.int 45)) (am_W ha hz a1 s1 t1 a2 s2 t2 al mb ms9 (ml_tm (mg_f (mc_cut k) (ms 20)) es mt) ol od))(hk9 : k = 112) : am_Run (d + 6) 126 [.ref 39, .int k, .int a, .int b, .int c9] (am_W ha hz a1 s1 t1 a2 s2 t2 al ma ms mt ol od) K := by
  subst hk9
  have ka1 : mc_told ha 112 a b c9 = false → K (some (.int 110)) (am_W ha hz a1 s1 t1 a2 s2 t2 al ma ms mt ol od) := fun h => by
    rw [mz_1 h] at ka
    exact ka ma ms (by decide) (fun _ _ => rfl) (fun _ _ => rfl)
  have ka2 : mc_told ha 112 a b c9 = true → ∀ v, mc_tool ha (ma 4) 112 a b (ms 19) (ms 23) = v → ¬ v = 45 → K (some (.int v)) (am_W ha hz a1 s1 t1 a2 s2 t2 al ma ms mt ol od) := fun h v h2 h3 => by
    rw [mz_2 h h2 h3] at ka
    exact ka ma ms h3 (fun _ _ => rfl) (fun _ _ => rfl)
  refine ⟨rfl, fun P hm hP => ?_⟩
  show P 0 [some (.ref 39), some (.int 112), some (.int a), some (.int b), some (.int c9), none] [] _ 0 0
  refine s_iload_n hP t126_0 rfl ?_
  refine s_bipush (v := 100) hP t126_1 (by decide) ?_
  refine s_icmp_ne hP t126_3 (fun q3 => ?_) (fun q3 => ?_)
  · refine s_iload_n hP t126_15 rfl ?_
    refine s_bipush (v := 112) hP t126_16 (by decide) ?_
    refine s_icmp_ne hP t126_18 (fun q18 => ?_) (fun q18 => ?_)
    · exact absurd rfl q18
    · refine s_iload_n hP t126_21 rfl ?_
      refine s_if_lt hP t126_22 (fun q22 => ?_) (fun q22 => ?_)
      · refine s_bipush (v := 110) hP t126_34 (by decide) ?_
        refine s_ireturn hP t126_36 rfl rfl ?_
        exact ka1 (by rw [mc_told, if_neg (by decide), if_pos rfl, (decide_eq_false (Int32.not_le.mpr q22) : decide (0 ≤ a) = false)]; simp)
      · refine s_iload_n hP t126_25 rfl ?_
        refine s_if_lt hP t126_26 (fun q26 => ?_) (fun q26 => ?_)
        · refine s_bipush (v := 110) hP t126_34 (by decide) ?_
          refine s_ireturn hP t126_36 rfl rfl ?_
          exact ka1 (by rw [mc_told, if_neg (by decide), if_pos rfl, (decide_eq_true (Int32.not_lt.mp q22) : decide (0 ≤ a) = true), (decide_eq_false (Int32.not_le.mpr q26) : decide (0 ≤ b) = false)]; simp)
        · refine s_iload hP t126_29 rfl ?_
          refine s_if_ge hP t126_31 (fun q31 => ?_) (fun q31 => ?_)
          · refine s_iload_n hP t126_37 rfl ?_
            refine s_bipush (v := 103) hP t126_38 (by decide) ?_
            refine s_icmp_eq hP t126_40 (fun q40 => ?_) (fun q40 => ?_)
            · exact absurd q40 (by decide)
            · refine s_aload_n hP t126_43 rfl ?_
              refine s_getfield hP t126_44 rfl rfl ?_
              refine s_if_lt hP t126_47 (fun q47 => ?_) (fun q47 => ?_)
              · have e47 : ms 19 = -1 := hm1.resolve_right (fun q => by
                  rw [q.1] at q47
                  exact absurd (nI_pos' (n := c) (by have := q.2.1; omega)) (Int32.not_le.mpr q47))
                refine s_iload_n hP t126_64 rfl ?_
                refine s_bipush (v := 103) hP t126_65 (by decide) ?_
                refine s_icmp_eq hP t126_67 (fun q67 => ?_) (fun q67 => ?_)
                · exact absurd q67 (by decide)
                · refine s_aload_n hP t126_70 rfl ?_
                  refine s_getfield hP t126_71 rfl rfl ?_
                  refine s_if_lt hP t126_74 (fun q74 => ?_) (fun q74 => ?_)
                  · refine s_bipush (v := 115) hP t126_84 (by decide) ?_
                    refine s_ireturn hP t126_86 rfl rfl ?_
                    exact ka2 (by rw [mc_told, if_neg (by decide), if_pos rfl, (decide_eq_true (Int32.not_lt.mp q22) : decide (0 ≤ a) = true), (decide_eq_true (Int32.not_lt.mp q26) : decide (0 ≤ b) = true), (decide_eq_true (q31) : decide (0 ≤ c9) = true)]; simp) 115 (mc_tool_115 rfl (fun q => absurd e47 q) (Or.inl e47)) (by decide)
                  · exact absurd (by rw [e47]; decide) q74
              · have e47 : ¬ ms 19 = -1 := fun q => q47 (by rw [q]; decide)
                have hq := hm1.resolve_left e47
                have hw := mc_worn_c (us := ma 4) hq.2.1 hli
                rw [← hq.1] at hw
                refine s_aload_n hP t126_50 rfl ?_
                refine s_aload_n hP t126_51 rfl ?_
                refine s_getfield hP t126_52 rfl rfl ?_
                refine s_invokevirtual (bc' := 0) (bs' := 0) hP t126_55 rfl rfl rfl rfl rfl ?_
                rw [hq.1]
                refine sp125 hq.2.1 ?_
                refine s_zeq hP t126_58 (fun q58 => ?_) (fun q58 => ?_)
                · have e58 : mc_worn (ha 2) (ma 4) (ms 19) = false := hw.trans q58
                  refine s_iload_n hP t126_64 rfl ?_
                  refine s_bipush (v := 103) hP t126_65 (by decide) ?_
                  refine s_icmp_eq hP t126_67 (fun q67 => ?_) (fun q67 => ?_)
                  · exact absurd q67 (by decide)
                  · refine s_aload_n hP t126_70 rfl ?_
                    refine s_getfield hP t126_71 rfl rfl ?_
                    refine s_if_lt hP t126_74 (fun q74 => ?_) (fun q74 => ?_)
                    · exact absurd q74 q47
                    · refine s_aload_n hP t126_77 rfl ?_
                      refine s_getfield hP t126_78 rfl rfl ?_
                      refine s_if_ne hP t126_81 (fun q81 => ?_) (fun q81 => ?_)
                      · have ht : mc_told ha 112 a b c9 = true := by rw [mc_told, if_neg (by decide), if_pos rfl, (decide_eq_true (Int32.not_lt.mp q22) : decide (0 ≤ a) = true), (decide_eq_true (Int32.not_lt.mp q26) : decide (0 ≤ b) = true), (decide_eq_true (q31) : decide (0 ≤ c9) = true)]; simp
                        have htool : mc_tool ha (ma 4) 112 a b (ms 19) (ms 23) = 45 := (mc_tool_45 rfl e47 e58 q81)
                        rw [mz_3 ht htool] at ka kf
                        exact sp126_87 hes hk hB hT hm1 hof (hfew ht) (hin ht) (hout ht) (htm ht) (fun q => mc_told_100 q ht hb1 hb2) (fun q => mc_told_112 q ht hb1 hb2 hb3) (fun _ => e47) ka kf P hm hP
                      · refine s_bipush (v := 115) hP t126_84 (by decide) ?_
                        refine s_ireturn hP t126_86 rfl rfl ?_
                        exact ka2 (by rw [mc_told, if_neg (by decide), if_pos rfl, (decide_eq_true (Int32.not_lt.mp q22) : decide (0 ≤ a) = true), (decide_eq_true (Int32.not_lt.mp q26) : decide (0 ≤ b) = true), (decide_eq_true (q31) : decide (0 ≤ c9) = true)]; simp) 115 (mc_tool_115 rfl (fun _ => e58) (Or.inr q81)) (by decide)
                · have e58 : mc_worn (ha 2) (ma 4) (ms 19) = true := hw.trans q58
                  refine s_bipush (v := 119) hP t126_61 (by decide) ?_
                  refine s_ireturn hP t126_63 rfl rfl ?_
                  exact ka2 (by rw [mc_told, if_neg (by decide), if_pos rfl, (decide_eq_true (Int32.not_lt.mp q22) : decide (0 ≤ a) = true), (decide_eq_true (Int32.not_lt.mp q26) : decide (0 ≤ b) = true), (decide_eq_true (q31) : decide (0 ≤ c9) = true)]; simp) 119 (mc_tool_119 rfl e47 e58) (by decide)
          · refine s_bipush (v := 110) hP t126_34 (by decide) ?_
            refine s_ireturn hP t126_36 rfl rfl ?_
            exact ka1 (by rw [mc_told, if_neg (by decide), if_pos rfl, (decide_eq_true (Int32.not_lt.mp q22) : decide (0 ≤ a) = true), (decide_eq_true (Int32.not_lt.mp q26) : decide (0 ≤ b) = true), (decide_eq_false (q31) : decide (0 ≤ c9) = false)]; simp)
  · exact absurd q3 (by decide)
theorem sp126 {d : Nat} {K : am_K} {ha : Nat → Nat → Int32} {hz : Int32} {a1 : Nat → Nat → Int32} {s1 : Nat → Int32} {t1 : UInt32} {a2 : Nat → Nat → Int32} {s2 : Nat → Int32} {t2 : UInt32} {al : Int32} {ma : Nat → Nat → Int32} {ms : Nat → Int32} {mt : UInt32} {ol : Nat → Int64} {od : Nat → UInt64} {T : Nat → Bool} {c s R X Y Z : Nat} {k a b c9 : Int32} {es : List ml_L} (hes : es = ml_legs k a b c9 (ma 11 0) (ma 11 1) (ma 11 2) (mk_b ma ms 0) (mk_b ma ms 1) (mk_b ma ms 2)) (hk : k = 103 ∨ k = 108 ∨ k = 100 ∨ k = 112) (hB : mg_B ma) (hT : ∀ q, q < 1152 → ma 13 q = am_b (T q)) (hm1 : ms 19 = -1 ∨ mg_req ma ms c s R) (hof : ms 22 = 0 → ∃ O, ms 21 = nI O ∧ O < 4) (hli : ∀ c, c < 12 → ma 3 c = ha 2 c) (hb1 : mi_iw a (-50) 50 = true) (hb2 : mi_iw b (-50) 50 = true) (hb3 : mi_iw c9 (-50) 50 = true) (hfew : mc_told ha k a b c9 = true → ∀ e ∈ es, mg_few e) (hin : mc_told ha k a b c9 = true → (∀ e ∈ es, ml_ins e = true) → ∀ e ∈ es, ml_inn e) (hout : mc_told ha k a b c9 = true → (∀ e ∈ es, ∀ i, 1 ≤ i → i ≤ ml_N e → mg_at e i = true) → ∀ e ∈ es, ml_ins e = true) (htm : mc_told ha k a b c9 = true → (∀ e ∈ es, ml_inn e) → vf_n32 (mg_f (mc_cut k) (ms 20)) ∧ ml_tok (mg_f (mc_cut k) (ms 20)) es mt) (ka : ∀ (mb : Nat → Nat → Int32) (ms9 : Nat → Int32), ¬ (mz_al ha (ma 4) k a b c9 (ms 19) (ms 23) (mg_S ma) T s R X Y Z es) = 45 → (∀ i, i ≠ 12 → mb i = ma i) → (∀ j, j ≠ 26 → ms9 j = ms j) → K (some (.int ((mz_al ha (ma 4) k a b c9 (ms 19) (ms 23) (mg_S ma) T s R X Y Z es)))) (am_W ha hz a1 s1 t1 a2 s2 t2 al mb ms9 mt ol od)) (kf : ∀ (mb : Nat → Nat → Int32) (ms9 : Nat → Int32), (mz_al ha (ma 4) k a b c9 (ms 19) (ms 23) (mg_S ma) T s R X Y Z es) = 45 → (∀ i, i ≠ 4 → i ≠ 11 → i ≠ 12 → i ≠ 14 → mb i = ma i) → (∀ j, j ≠ 26 → ms9 j = ms j) → mg_B mb → (∀ q, q < 1152 → mg_S mb q = (if mc_cut k = true then ml_cut s R (ml_all es) (mg_S ma) else mg_S ma) q) → mb 4 = (if mc_cut k = true then upd (ma 4) (ms 19).toNatClampNeg (ma 4 (ms 19).toNatClampNeg + nI (ml_cc s R (ml_all es) (mg_S ma))) else ma 4) → mb 11 0 = ml_ex k a b (ma 11 0) (mk_b ma ms 0) → mb 11 1 = ml_ey k b (ma 11 1) (mk_b ma ms 1) → mb 11 2 = ml_ez k c9 (ma 11 2) (mk_b ma ms 2) → K (some (.int 45)) (am_W ha hz a1 s1 t1 a2 s2 t2 al mb ms9 (ml_tm (mg_f (mc_cut k) (ms 20)) es mt) ol od)) : am_Run (d + 6) 126 [.ref 39, .int k, .int a, .int b, .int c9] (am_W ha hz a1 s1 t1 a2 s2 t2 al ma ms mt ol od) K := by
  rcases id hk with h | h | h | h
  · exact sp126_103 hes hk hB hT hm1 hof hli hb1 hb2 hb3 hfew hin hout htm ka kf h
  · exact sp126_108 hes hk hB hT hm1 hof hli hb1 hb2 hb3 hfew hin hout htm ka kf h
  · exact sp126_100 hes hk hB hT hm1 hof hli hb1 hb2 hb3 hfew hin hout htm ka kf h
  · exact sp126_112 hes hk hB hT hm1 hof hli hb1 hb2 hb3 hfew hin hout htm ka kf h
