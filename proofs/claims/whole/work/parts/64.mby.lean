/-! THE MODEL: a block that moves. (rows by gen/sp26.py) -/
theorem sp124u {d : Nat} {K : am_K} {ha : Nat → Nat → Int32} {hz : Int32} {a1 : Nat → Nat → Int32} {s1 : Nat → Int32} {t1 : UInt32} {a2 : Nat → Nat → Int32} {s2 : Nat → Int32} {t2 : UInt32} {al : Int32} {ma : Nat → Nat → Int32} {ms : Nat → Int32} {mt : UInt32} {ol : Nat → Int64} {od : Nat → UInt64} {h : Int32} {T : Nat → Bool} {c s R : Nat} {k a b c9 : Int32} {es : List ml_L} (hes : es = ml_legs k a b c9 (ma 11 0) (ma 11 1) (ma 11 2) (mk_b ma ms 0) (mk_b ma ms 1) (mk_b ma ms 2)) (hx : mg_ctx h (mc_cut k) T c s R ma ms mt es) (hk : k = 103 ∨ k = 108 ∨ k = 100 ∨ k = 112) (h100 : k = 100 → ∃ A B, a = nI A ∧ b = nI B ∧ A ≤ 50 ∧ 1 ≤ B ∧ B ≤ 50) (h112 : k = 112 → ∃ A B C, a = nI A ∧ b = nI B ∧ c9 = nI C ∧ A ≤ 50 ∧ B ≤ 50 ∧ C ≤ 50) (hof : ms 22 = 0 → ∃ O, ms 21 = nI O ∧ O < 4) (kk : ∀ (v : Bool) (mb : Nat → Nat → Int32) (t9 : UInt32), mg_res h (mc_cut k) T (ms 19) c s R (ms 20) es ma mt = (v, mb, t9) → K (some (.int (am_b v))) (am_W ha hz a1 s1 t1 a2 s2 t2 al (cond v (mg_fin k ma mb) mb) ms t9 ol od)) : am_Run (d + 5) 124 [.ref 39, .int k, .int a, .int b, .int c9] (am_W ha hz a1 s1 t1 a2 s2 t2 al ma ms mt ol od) K := by
  subst hes
  rcases hk with rfl | rfl | rfl | rfl
  · exact sp124g (d := d + 1) (cut := mc_cut 103) hx (Or.inl rfl) (by decide) (by decide) hof (fun mb t9 q => kk true mb t9 q) (fun mb t9 q => kk false mb t9 q)
  · exact sp124g (d := d + 1) (cut := mc_cut 108) hx (Or.inr rfl) (by decide) (by decide) hof (fun mb t9 q => kk true mb t9 q) (fun mb t9 q => kk false mb t9 q)
  · exact sp124d hx h100 h112 rfl (fun mb t9 q => kk true mb t9 q) (fun mb t9 q => kk false mb t9 q)
  · exact sp124p hx h100 h112 rfl (fun mb t9 q => kk true mb t9 q) (fun mb t9 q => kk false mb t9 q)
theorem mk_b_cg {m n : Nat → Nat → Int32} {s q : Nat → Int32} (h10 : m 10 = n 10) (h11 : m 11 = n 11) (h21 : s 21 = q 21) (h22 : s 22 = q 22) (i : Nat) : mk_b m s i = mk_b n q i := by
  rw [mk_b, mk_b, h10, h11, h21, h22]
theorem mg_fin_i {k : Int32} {ma mb : Nat → Nat → Int32} {i : Nat} (h12 : i ≠ 12) : mg_fin k ma mb i = mb i := by
  rw [mg_fin]
  split
  · simp only [am_u2, beq_no h12, cond_false]
  · rfl
theorem mg_at_inn {e : ml_L} (h : ml_inn e) : ∀ k, 1 ≤ k → k ≤ ml_N e → mg_at e k = true := by
  intro k h1 h2
  obtain ⟨X, Y, Z, hX, hY, hZ, e1, e2, e3⟩ := h.2.2 k h1 h2
  rw [mg_at, e1, e2, e3, mi_place]
  show (mi_iw (nI X) 0 (nI 15) && mi_iw (nI Y) 0 (nI 11) && mi_iw (nI Z) 0 (nI 9)) = true
  rw [mi_iw_at (N := 15) (by decide) (by omega), mi_iw_at (N := 11) (by decide) (by omega), mi_iw_at (N := 9) (by decide) (by omega)]
  rfl
theorem mz_108 {cut : Bool} {T : Nat → Bool} {c s R : Nat} {sl fd : Int32} {es : List ml_L} {ma : Nat → Nat → Int32} {t : UInt32} (hin : (∀ e ∈ es, ml_ins e = true) → ∀ e ∈ es, ml_inn e) (hout : (∀ e ∈ es, ∀ i, 1 ≤ i → i ≤ ml_N e → mg_at e i = true) → ∀ e ∈ es, ml_ins e = true) : (mg_res 108 cut T sl c s R fd es ma t).1 = true ↔ me_out es = false := by
  rw [mg_res_1 (by decide)]
  constructor
  · intro h
    have h2 := hout (fun e he => (h e he).1 rfl)
    cases h9 : me_out es with
    | false => rfl
    | true =>
      rw [me_out, List.any_eq_true] at h9
      obtain ⟨e, he, h8⟩ := h9
      rw [h2 e he] at h8
      exact absurd h8 (by decide)
  · intro h e he
    exact ⟨fun _ => mg_at_inn (hin (me_out_no h) e he), fun q => absurd q (by decide)⟩
theorem mc_cut_f {k : Int32} (hk : k = 103 ∨ k = 108 ∨ k = 100 ∨ k = 112) : mc_cut k = !decide (k = 103) := by
  rcases hk with rfl | rfl | rfl | rfl <;> decide
theorem mz_99 {T : Nat → Bool} {c s R : Nat} {sl fd k : Int32} {es : List ml_L} {ma : Nat → Nat → Int32} {t : UInt32} (hk : k = 103 ∨ k = 108 ∨ k = 100 ∨ k = 112) : (mg_res 99 (mc_cut k) T sl c s R fd es ma t).1 = true ↔ ¬ (¬ sl = -1 ∧ (mx_d (ml_hit T s R es) = true ∨ (k = 103 ∧ mx_d (ml_hit (mg_S ma) s R es) = true))) := by
  rw [mg_res_1 (by decide), mx_d_iff, mx_d_iff, mc_cut_f hk]
  constructor
  · rintro h ⟨h1, ⟨e, he, i, h2, h3, q, hq, h4, h5⟩ | ⟨rfl, e, he, i, h2, h3, q, hq, h4, h5⟩⟩
    · refine (h e he).2 rfl h1 ⟨i, h2, h3, q, hq, ?_, h5⟩
      rw [mg_met, h4]
      simp
    · refine (h e he).2 rfl h1 ⟨i, h2, h3, q, hq, ?_, h5⟩
      rw [mg_met, h4]
      simp
  · intro h e he
    refine ⟨fun q => absurd q (by decide), fun _ h1 h2 => ?_⟩
    obtain ⟨i, h3, h4, q, hq, h5, h6⟩ := h2
    apply h
    refine ⟨h1, ?_⟩
    rw [mg_met, Bool.or_eq_true, Bool.true_and, Bool.and_eq_true, Bool.not_not, decide_eq_true_eq] at h5
    rcases h5 with ⟨h5, h7⟩ | h5
    · exact Or.inr ⟨h5, e, he, i, h3, h4, q, hq, h7, h6⟩
    · exact Or.inl ⟨e, he, i, h3, h4, q, hq, h5, h6⟩
theorem mg_f_eq {k fd : Int32} (hk : k = 103 ∨ k = 108 ∨ k = 100 ∨ k = 112) : mg_f (mc_cut k) fd = FP.fdiv FP.fconst1 (FP.i2f (if k = 103 then 100 else fd)) := by
  rcases hk with rfl | rfl | rfl | rfl
  · show FP.fdiv FP.fconst1 1120403456 = FP.fdiv FP.fconst1 (FP.i2f 100)
    rw [show FP.i2f 100 = 1120403456 by decide +kernel]
  · rfl
  · rfl
  · rfl
set_option maxHeartbeats 4000000 in
theorem sp126_87 {d : Nat} {K : am_K} {ha : Nat → Nat → Int32} {hz : Int32} {a1 : Nat → Nat → Int32} {s1 : Nat → Int32} {t1 : UInt32} {a2 : Nat → Nat → Int32} {s2 : Nat → Int32} {t2 : UInt32} {al : Int32} {ma : Nat → Nat → Int32} {ms : Nat → Int32} {mt : UInt32} {ol : Nat → Int64} {od : Nat → UInt64} {T : Nat → Bool} {c s R X Y Z : Nat} {k a b c9 : Int32} {es : List ml_L} (hes : es = ml_legs k a b c9 (ma 11 0) (ma 11 1) (ma 11 2) (mk_b ma ms 0) (mk_b ma ms 1) (mk_b ma ms 2)) (hk : k = 103 ∨ k = 108 ∨ k = 100 ∨ k = 112) (hB : mg_B ma) (hT : ∀ q, q < 1152 → ma 13 q = am_b (T q)) (hm1 : ms 19 = -1 ∨ mg_req ma ms c s R) (hof : ms 22 = 0 → ∃ O, ms 21 = nI O ∧ O < 4) (hfew : ∀ e ∈ es, mg_few e) (hin : (∀ e ∈ es, ml_ins e = true) → ∀ e ∈ es, ml_inn e) (hout : (∀ e ∈ es, ∀ i, 1 ≤ i → i ≤ ml_N e → mg_at e i = true) → ∀ e ∈ es, ml_ins e = true) (htm : (∀ e ∈ es, ml_inn e) → vf_n32 (mg_f (mc_cut k) (ms 20)) ∧ ml_tok (mg_f (mc_cut k) (ms 20)) es mt) (h100 : k = 100 → ∃ A B, a = nI A ∧ b = nI B ∧ A ≤ 50 ∧ 1 ≤ B ∧ B ≤ 50) (h112 : k = 112 → ∃ A B C, a = nI A ∧ b = nI B ∧ c9 = nI C ∧ A ≤ 50 ∧ B ≤ 50 ∧ C ≤ 50) (hsl : mc_cut k = true → ¬ ms 19 = -1) (ka : ∀ (mb : Nat → Nat → Int32) (ms9 : Nat → Int32), ¬ (me_cell k (ms 19) (mg_S ma) T s R X Y Z es) = 45 → (∀ i, i ≠ 12 → mb i = ma i) → (∀ j, j ≠ 26 → ms9 j = ms j) → K (some (.int ((me_cell k (ms 19) (mg_S ma) T s R X Y Z es)))) (am_W ha hz a1 s1 t1 a2 s2 t2 al mb ms9 mt ol od)) (kf : ∀ (mb : Nat → Nat → Int32) (ms9 : Nat → Int32), (me_cell k (ms 19) (mg_S ma) T s R X Y Z es) = 45 → (∀ i, i ≠ 4 → i ≠ 11 → i ≠ 12 → i ≠ 14 → mb i = ma i) → (∀ j, j ≠ 26 → ms9 j = ms j) → mg_B mb → (∀ q, q < 1152 → mg_S mb q = (if mc_cut k = true then ml_cut s R (ml_all es) (mg_S ma) else mg_S ma) q) → mb 4 = (if mc_cut k = true then upd (ma 4) (ms 19).toNatClampNeg (ma 4 (ms 19).toNatClampNeg + nI (ml_cc s R (ml_all es) (mg_S ma))) else ma 4) → mb 11 0 = ml_ex k a b (ma 11 0) (mk_b ma ms 0) → mb 11 1 = ml_ey k b (ma 11 1) (mk_b ma ms 1) → mb 11 2 = ml_ez k c9 (ma 11 2) (mk_b ma ms 2) → K (some (.int 45)) (am_W ha hz a1 s1 t1 a2 s2 t2 al mb ms9 (ml_tm (mg_f (mc_cut k) (ms 20)) es mt) ol od)) (P : am_P) (hm : am_mono P) (hP : am_cl am_G am_ro am_ft am_df (am_Ex am_G am_ro am_ft am_df (d + 5)) 126 K P) : P 87 [some (.ref 39), some (.int k), some (.int a), some (.int b), some (.int c9), none] [] (am_W ha hz a1 s1 t1 a2 s2 t2 al ma ms mt ol od) 0 0 := by
  refine s_aload_n hP t126_87 rfl ?_
  refine s_bipush (v := 108) hP t126_88 (by decide) ?_
  refine s_putfield hP t126_90 rfl rfl rfl rfl ?_
  have ctx1 : mg_ctx 108 (mc_cut k) T c s R ma (am_u1 ms 26 108) mt es := ⟨Or.inl rfl, rfl, hB, hT, hm1, fun q => absurd q (by decide), fun e he => ⟨hfew e he, fun q => absurd rfl q⟩, fun q => absurd q (by decide)⟩
  refine s_aload_n hP t126_93 rfl ?_
  refine s_iload_n hP t126_94 rfl ?_
  refine s_iload_n hP t126_95 rfl ?_
  refine s_iload_n hP t126_96 rfl ?_
  refine s_iload hP t126_97 rfl ?_
  refine s_invokevirtual (bc' := 0) (bs' := 0) hP t126_99 rfl rfl rfl rfl rfl ?_
  refine sp124u (ma := ma) (ms := (am_u1 ms 26 108)) (mt := mt) (h := 108) (T := T) (c := c) (s := s) (R := R) (es := es) hes ctx1 hk h100 h112 hof (fun v1 mb1 t91 hr1 => ?_)
  refine s_zne hP t126_102 (fun q102 => ?_) (fun q102 => ?_)
  · subst q102
    obtain rfl : mt = t91 := by
      have := mg_res_t (h := 108) (cut := mc_cut k) (T := T) (c := c) (s := s) (R := R) (sl := ms 19) (fd := ms 20) (by decide) es ma mt
      rw [show mg_res 108 (mc_cut k) T (ms 19) c s R (ms 20) es ma mt = _ from hr1] at this
      exact this.symm
    have i1 : ∀ i, i ≠ 12 → mg_fin k ma mb1 i = ma i := by
      intro i hi
      rw [mg_fin_i hi]
      have := mg_res_ne (h := 108) (cut := mc_cut k) (T := T) (c := c) (s := s) (R := R) (sl := ms 19) (fd := ms 20) (by decide) hi es ma mt
      rw [show mg_res 108 (mc_cut k) T (ms 19) c s R (ms 20) es ma mt = _ from hr1] at this
      exact this
    have ho1 : me_out es = false := by
      rw [← mz_108 (cut := mc_cut k) (T := T) (c := c) (s := s) (R := R) (sl := ms 19) (fd := ms 20) (ma := ma) (t := mt) hin hout, show mg_res 108 (mc_cut k) T (ms 19) c s R (ms 20) es ma mt = _ from hr1]
    have inn := hin (me_out_no ho1)
    obtain ⟨tv, tk⟩ := htm inn
    show P 108 [some (.ref 39), some (.int k), some (.int a), some (.int b), some (.int c9), none] [] (am_W ha hz a1 s1 t1 a2 s2 t2 al (mg_fin k ma mb1) (am_u1 ms 26 108) mt ol od) 0 0
    generalize mg_fin k ma mb1 = m1 at i1 ⊢
    clear hr1 mb1
    have B1 : mg_B m1 := mg_B_14 (i1 14 (by decide)) hB
    have S1 : mg_S m1 = mg_S ma := by unfold mg_S; rw [i1 14 (by decide)]
    have es1 : es = ml_legs k a b c9 (m1 11 0) (m1 11 1) (m1 11 2) (mk_b m1 (am_u1 (am_u1 ms 26 108) 26 99) 0) (mk_b m1 (am_u1 (am_u1 ms 26 108) 26 99) 1) (mk_b m1 (am_u1 (am_u1 ms 26 108) 26 99) 2) := by
      rw [mk_b_cg (s := am_u1 (am_u1 ms 26 108) 26 99) (i1 10 (by decide)) (i1 11 (by decide)) (q := ms) rfl rfl, mk_b_cg (s := am_u1 (am_u1 ms 26 108) 26 99) (i1 10 (by decide)) (i1 11 (by decide)) (q := ms) rfl rfl, mk_b_cg (s := am_u1 (am_u1 ms 26 108) 26 99) (i1 10 (by decide)) (i1 11 (by decide)) (q := ms) rfl rfl, i1 11 (by decide)]
      exact hes
    have rq1 : ms 19 = -1 ∨ mg_req m1 (am_u1 (am_u1 ms 26 108) 26 99) c s R := hm1.imp id (fun q => by
      obtain ⟨h1, h2, h3, h4, h5⟩ := q
      exact ⟨h1, h2, by rw [i1 0 (by decide)]; exact h3, by rw [i1 2 (by decide)]; exact h4, h5⟩)
    have ctx2 : mg_ctx 99 (mc_cut k) T c s R m1 (am_u1 (am_u1 ms 26 108) 26 99) mt es := ⟨Or.inr (Or.inl rfl), rfl, B1, fun q hq => by rw [i1 13 (by decide)]; exact hT q hq, rq1, fun q => absurd q (by decide), fun e he => ⟨hfew e he, fun _ => inn e he⟩, fun q => absurd q (by decide)⟩
    refine s_aload_n hP t126_108 rfl ?_
    refine s_bipush (v := 99) hP t126_109 (by decide) ?_
    refine s_putfield hP t126_111 rfl rfl rfl rfl ?_
    refine s_aload_n hP t126_114 rfl ?_
    refine s_iload_n hP t126_115 rfl ?_
    refine s_iload_n hP t126_116 rfl ?_
    refine s_iload_n hP t126_117 rfl ?_
    refine s_iload hP t126_118 rfl ?_
    refine s_invokevirtual (bc' := 0) (bs' := 0) hP t126_120 rfl rfl rfl rfl rfl ?_
    refine sp124u (ma := m1) (ms := (am_u1 (am_u1 ms 26 108) 26 99)) (mt := mt) (h := 99) (T := T) (c := c) (s := s) (R := R) (es := es) es1 ctx2 hk h100 h112 hof (fun v2 mb2 t92 hr2 => ?_)
    refine s_zne hP t126_123 (fun q123 => ?_) (fun q123 => ?_)
    · subst q123
      obtain rfl : mt = t92 := by
        have := mg_res_t (h := 99) (cut := mc_cut k) (T := T) (c := c) (s := s) (R := R) (sl := ms 19) (fd := ms 20) (by decide) es m1 mt
        rw [show mg_res 99 (mc_cut k) T (ms 19) c s R (ms 20) es m1 mt = _ from hr2] at this
        exact this.symm
      have i2 : ∀ i, i ≠ 12 → mg_fin k m1 mb2 i = ma i := by
        intro i hi
        rw [mg_fin_i hi, ← i1 i hi]
        have := mg_res_ne (h := 99) (cut := mc_cut k) (T := T) (c := c) (s := s) (R := R) (sl := ms 19) (fd := ms 20) (by decide) hi es m1 mt
        rw [show mg_res 99 (mc_cut k) T (ms 19) c s R (ms 20) es m1 mt = _ from hr2] at this
        exact this
      have hh := (mz_99 (T := T) (c := c) (s := s) (R := R) (sl := ms 19) (fd := ms 20) (es := es) (ma := m1) (t := mt) hk).mp (by rw [show mg_res 99 (mc_cut k) T (ms 19) c s R (ms 20) es m1 mt = _ from hr2])
      rw [S1] at hh
      have hv : me_cell k (ms 19) (mg_S ma) T s R X Y Z es = 45 := by rw [me_cell, if_neg (by rw [ho1]; decide), if_neg hh, if_neg (fun q => absurd q.1 (by rcases hk with rfl | rfl | rfl | rfl <;> decide))]
      show P 129 [some (.ref 39), some (.int k), some (.int a), some (.int b), some (.int c9), none] [] (am_W ha hz a1 s1 t1 a2 s2 t2 al (mg_fin k m1 mb2) (am_u1 (am_u1 ms 26 108) 26 99) mt ol od) 0 0
      generalize mg_fin k m1 mb2 = m2 at i2 ⊢
      clear hr2 mb2
      have B2 : mg_B m2 := mg_B_14 (i2 14 (by decide)) hB
      have S2 : mg_S m2 = mg_S ma := by unfold mg_S; rw [i2 14 (by decide)]
      have es2 : es = ml_legs k a b c9 (m2 11 0) (m2 11 1) (m2 11 2) (mk_b m2 (am_u1 (am_u1 (am_u1 ms 26 108) 26 99) 26 100) 0) (mk_b m2 (am_u1 (am_u1 (am_u1 ms 26 108) 26 99) 26 100) 1) (mk_b m2 (am_u1 (am_u1 (am_u1 ms 26 108) 26 99) 26 100) 2) := by
        rw [mk_b_cg (s := am_u1 (am_u1 (am_u1 ms 26 108) 26 99) 26 100) (i2 10 (by decide)) (i2 11 (by decide)) (q := ms) rfl rfl, mk_b_cg (s := am_u1 (am_u1 (am_u1 ms 26 108) 26 99) 26 100) (i2 10 (by decide)) (i2 11 (by decide)) (q := ms) rfl rfl, mk_b_cg (s := am_u1 (am_u1 (am_u1 ms 26 108) 26 99) 26 100) (i2 10 (by decide)) (i2 11 (by decide)) (q := ms) rfl rfl, i2 11 (by decide)]
        exact hes
      have rq2 : ms 19 = -1 ∨ mg_req m2 (am_u1 (am_u1 (am_u1 ms 26 108) 26 99) 26 100) c s R := hm1.imp id (fun q => by
        obtain ⟨h1, h2, h3, h4, h5⟩ := q
        exact ⟨h1, h2, by rw [i2 0 (by decide)]; exact h3, by rw [i2 2 (by decide)]; exact h4, h5⟩)
      have ctx3 : mg_ctx 100 (mc_cut k) T c s R m2 (am_u1 (am_u1 (am_u1 ms 26 108) 26 99) 26 100) mt es := ⟨Or.inr (Or.inr rfl), rfl, B2, fun q hq => by rw [i2 13 (by decide)]; exact hT q hq, rq2, fun _ => hsl, fun e he => ⟨hfew e he, fun _ => inn e he⟩, fun _ => ⟨tv, tk⟩⟩
      refine s_aload_n hP t126_129 rfl ?_
      refine s_bipush (v := 100) hP t126_130 (by decide) ?_
      refine s_putfield hP t126_132 rfl rfl rfl rfl ?_
      refine s_aload_n hP t126_135 rfl ?_
      refine s_iload_n hP t126_136 rfl ?_
      refine s_iload_n hP t126_137 rfl ?_
      refine s_iload_n hP t126_138 rfl ?_
      refine s_iload hP t126_139 rfl ?_
      refine s_invokevirtual (bc' := 0) (bs' := 0) hP t126_141 rfl rfl rfl rfl rfl ?_
      refine sp124u (ma := m2) (ms := (am_u1 (am_u1 (am_u1 ms 26 108) 26 99) 26 100)) (mt := mt) (h := 100) (T := T) (c := c) (s := s) (R := R) (es := es) es2 ctx3 hk h100 h112 hof (fun v3 mb3 t93 hr3 => ?_)
      refine s_zeq hP t126_144 (fun q144 => ?_) (fun q144 => ?_)
      · subst q144
        have := (mg_res_100 (cut := mc_cut k) (T := T) (c := c) (s := s) (R := R) (sl := ms 19) (fd := ms 20) es m2 mt).1
        rw [show mg_res 100 (mc_cut k) T (ms 19) c s R (ms 20) es m2 mt = _ from hr3] at this
        cases this
      · subst q144
        obtain ⟨r1, r2⟩ := mg_res_100 (cut := mc_cut k) (T := T) (c := c) (s := s) (R := R) (sl := ms 19) (fd := ms 20) es m2 mt
        obtain ⟨e9, hl, x1, x2, x3⟩ := ml_last (k := k) (a := a) (b := b) (c := c9) (x := m2 11 0) (y := m2 11 1) (z := m2 11 2) (u := mk_b m2 (am_u1 (am_u1 (am_u1 ms 26 108) 26 99) 26 100) 0) (v := mk_b m2 (am_u1 (am_u1 (am_u1 ms 26 108) 26 99) 26 100) 1) (w := mk_b m2 (am_u1 (am_u1 (am_u1 ms 26 108) 26 99) 26 100) 2) hk (fun q => by
          obtain ⟨A, B, C, -, h1, -, -, h2, -⟩ := h112 q
          exact ⟨B, h1, by omega⟩)
        rw [← es2] at hl
        obtain ⟨y1, y2, y3⟩ := mg_res_12 (h := 100) (cut := mc_cut k) (T := T) (c := c) (s := s) (R := R) (sl := ms 19) (fd := ms 20) es m2 mt hl r1
        have h4 : mg_B mb3 ∧ (∀ q, q < 1152 → mg_S mb3 q = (if mc_cut k = true then ml_cut s R (ml_all es) (mg_S ma) else mg_S ma) q) ∧ mb3 4 = (if mc_cut k = true then upd (ma 4) (ms 19).toNatClampNeg (ma 4 (ms 19).toNatClampNeg + nI (ml_cc s R (ml_all es) (mg_S ma))) else ma 4) := by
          have e3 : mb3 = (mg_res 100 (mc_cut k) T (ms 19) c s R (ms 20) es m2 mt).2.1 := by rw [show mg_res 100 (mc_cut k) T (ms 19) c s R (ms 20) es m2 mt = _ from hr3]
          rw [← S2, ← i2 4 (by decide)]
          cases hcut : mc_cut k with
          | false =>
            rw [hcut] at e3
            have f14 : mb3 14 = m2 14 := by rw [e3]; exact mg_res_100f (by decide) es m2 mt
            refine ⟨mg_B_14 f14 B2, fun q hq => ?_, ?_⟩
            · rw [if_neg (by decide)]
              unfold mg_S
              rw [f14]
            · rw [if_neg (by decide), e3]
              exact mg_res_100f (by decide) es m2 mt
          | true =>
            rw [hcut] at e3
            have hc := hm1.resolve_left (hsl hcut)
            obtain ⟨z1, z2, z3⟩ := mg_res_100t (T := T) (c := c) (s := s) (R := R) (sl := ms 19) (fd := ms 20) es m2 mt B2
            rw [← e3] at z1 z2 z3
            refine ⟨z1, fun q hq => ?_, ?_⟩
            · rw [if_pos rfl]; exact z2 q hq
            · rw [if_pos rfl, hc.1, nI_clamp (by have := hc.2.1; omega)]; exact z3
        obtain ⟨B3, S3, U3⟩ := h4
        have i3 : ∀ i, i ≠ 4 → i ≠ 12 → i ≠ 14 → mb3 i = ma i := by
          intro i h4 h12 h14
          rw [← i2 i h12]
          have := mg_res_i (h := 100) (cut := mc_cut k) (T := T) (c := c) (s := s) (R := R) (sl := ms 19) (fd := ms 20) h4 h14 h12 es m2 mt
          rw [show mg_res 100 (mc_cut k) T (ms 19) c s R (ms 20) es m2 mt = _ from hr3] at this
          exact this
        rw [show mg_res 100 (mc_cut k) T (ms 19) c s R (ms 20) es m2 mt = _ from hr3] at r2 y1 y2 y3
        have r2 : t93 = ml_tm (mg_f (mc_cut k) (ms 20)) es mt := r2
        subst r2
        have w0 : mg_fin k m2 mb3 12 0 = ml_ex k a b (ma 11 0) (mk_b ma ms 0) := by
          have : mg_fin k m2 mb3 12 0 = mb3 12 0 := by rw [mg_fin]; split <;> rfl
          rw [this, show mb3 12 0 = _ from y1, x1, mk_b_cg (s := am_u1 (am_u1 (am_u1 ms 26 108) 26 99) 26 100) (i2 10 (by decide)) (i2 11 (by decide)) (q := ms) rfl rfl, i2 11 (by decide)]
        have w1 : mg_fin k m2 mb3 12 1 = ml_ey k b (ma 11 1) (mk_b ma ms 1) := by
          have : mg_fin k m2 mb3 12 1 = mb3 12 1 := by rw [mg_fin]; split <;> rfl
          rw [this, show mb3 12 1 = _ from y2, x2, mk_b_cg (s := am_u1 (am_u1 (am_u1 ms 26 108) 26 99) 26 100) (i2 10 (by decide)) (i2 11 (by decide)) (q := ms) rfl rfl, i2 11 (by decide)]
        have w2 : mg_fin k m2 mb3 12 2 = ml_ez k c9 (ma 11 2) (mk_b ma ms 2) := by
          rw [← i2 11 (by decide), ← mk_b_cg (m := m2) (s := (am_u1 (am_u1 (am_u1 ms 26 108) 26 99) 26 100)) (i2 10 (by decide)) (i2 11 (by decide)) (q := ms) rfl rfl, ← x3, mg_fin]
          split
          · rfl
          · exact y3
        have i4 : ∀ i, i ≠ 4 → i ≠ 12 → i ≠ 14 → mg_fin k m2 mb3 i = ma i := fun i h4 h12 h14 => (mg_fin_i h12).trans (i3 i h4 h12 h14)
        have B4 : mg_B (mg_fin k m2 mb3) := mg_B_14 (mg_fin_i (by decide)) B3
        have S4 : mg_S (mg_fin k m2 mb3) = mg_S mb3 := by unfold mg_S; rw [mg_fin_i (by decide)]
        have U4 : mg_fin k m2 mb3 4 = mb3 4 := mg_fin_i (by decide)
        show P 147 [some (.ref 39), some (.int k), some (.int a), some (.int b), some (.int c9), none] [] (am_W ha hz a1 s1 t1 a2 s2 t2 al (mg_fin k m2 mb3) (am_u1 (am_u1 (am_u1 ms 26 108) 26 99) 26 100) (ml_tm (mg_f (mc_cut k) (ms 20)) es mt) ol od) 0 0
        rw [← S4] at S3
        rw [← U4] at U3
        generalize mg_fin k m2 mb3 = m3 at w0 w1 w2 i4 B4 S3 U3 ⊢
        generalize ml_tm (mg_f (mc_cut k) (ms 20)) es mt = t9 at kf ⊢
        clear hr3
        refine s_iconst (v := 0) hP t126_147 (by decide) ?_
        refine s_istore_5 hP t126_148 (by exact rfl) ?_
        have loop : ∀ (n i : Nat), i ≤ 3 → 3 + 1 ≤ i + n → P 150 [some (.ref 39), some (.int k), some (.int a), some (.int b), some (.int c9), some (.int (nI i))] [] (am_W ha hz a1 s1 t1 a2 s2 t2 al (am_u2 m3 11 (mp_cp (m3 12) (m3 11) i)) (am_u1 (am_u1 (am_u1 ms 26 108) 26 99) 26 100) t9 ol od) 0 0 := by
          intro n
          induction n with
          | zero => intro i h3 h4; omega
          | succ n ih =>
            intro i h3 h4
            refine s_iload hP t126_150 rfl ?_
            refine s_iconst (v := 3) hP t126_152 (by decide) ?_
            refine s_icmp_ge hP t126_153 (fun q153 => ?_) (fun q153 => ?_)
            · have e9 : 3 ≤ i := mi_leN (by decide) (by omega) q153
              refine s_bipush (v := 45) hP t126_176 (by decide) ?_
              refine s_ireturn hP t126_178 rfl rfl ?_
              obtain rfl : i = 3 := by omega
              exact kf (am_u2 m3 11 (mp_cp (m3 12) (m3 11) 3)) (am_u1 (am_u1 (am_u1 ms 26 108) 26 99) 26 100) hv (fun i h4 h11 h12 h14 => by simp only [am_u2, beq_no h11, cond_false]; exact i4 i h4 h12 h14) (fun j hj => by simp only [am_u1, beq_no hj, cond_false]) (mg_B_14 rfl B4) S3 U3 w0 w1 w2
            · have e9 : i < 3 := mi_nleN (a := 3) (by decide) (by omega) q153
              refine s_aload_n hP t126_156 rfl ?_
              refine s_getfield hP t126_157 rfl rfl ?_
              refine s_iload hP t126_160 rfl ?_
              refine s_aload_n hP t126_162 rfl ?_
              refine s_getfield hP t126_163 rfl rfl ?_
              refine s_iload hP t126_166 rfl ?_
              refine s_iaload hP t126_168 rfl (vp_in_nI (by omega) (by decide)) ?_
              rw [nI_clamp (by omega)]
              refine s_iastore hP t126_169 rfl (vp_in_nI (by omega) (by decide)) ?_
              rw [nI_clamp (by omega)]
              refine s_iinc_5 (v := 1) hP t126_170 (by decide) (by exact rfl) ?_
              refine s_goto hP t126_173 ?_
              rw [nI_1]
              exact ih (i + 1) (by omega) (by omega)
        exact loop 4 0 (by omega) (by omega)
    · subst q123
      have hh : ¬ ms 19 = -1 ∧ (mx_d (ml_hit T s R es) = true ∨ (k = 103 ∧ mx_d (ml_hit (mg_S ma) s R es) = true)) := by
        apply Classical.byContradiction
        intro h9
        rw [← S1] at h9
        have := (mz_99 (T := T) (c := c) (s := s) (R := R) (sl := ms 19) (fd := ms 20) (es := es) (ma := m1) (t := mt) hk).mpr h9
        rw [show mg_res 99 (mc_cut k) T (ms 19) c s R (ms 20) es m1 mt = _ from hr2] at this
        cases this
      have hv : me_cell k (ms 19) (mg_S ma) T s R X Y Z es = 99 := by rw [me_cell, if_neg (by rw [ho1]; decide), if_pos hh]
      obtain rfl : mt = t92 := by
        have := mg_res_t (h := 99) (cut := mc_cut k) (T := T) (c := c) (s := s) (R := R) (sl := ms 19) (fd := ms 20) (by decide) es m1 mt
        rw [show mg_res 99 (mc_cut k) T (ms 19) c s R (ms 20) es m1 mt = _ from hr2] at this
        exact this.symm
      rw [hv] at ka
      have ka9 := ka mb2 (am_u1 (am_u1 ms 26 108) 26 99) (by decide) (fun i hi => by
        have := mg_res_ne (h := 99) (cut := mc_cut k) (T := T) (c := c) (s := s) (R := R) (sl := ms 19) (fd := ms 20) (by decide) hi es m1 mt
        rw [show mg_res 99 (mc_cut k) T (ms 19) c s R (ms 20) es m1 mt = _ from hr2] at this
        exact (this.trans (i1 i hi))) (fun j hj => by simp only [am_u1, beq_no hj, cond_false])
      refine s_bipush (v := 99) hP t126_126 (by decide) ?_
      refine s_ireturn hP t126_128 rfl rfl ?_
      exact ka9
  · subst q102
    have ho1 : me_out es = true := by
      cases h9 : me_out es with
      | true => rfl
      | false =>
        have := (mz_108 (cut := mc_cut k) (T := T) (c := c) (s := s) (R := R) (sl := ms 19) (fd := ms 20) (ma := ma) (t := mt) hin hout).mpr h9
        rw [show mg_res 108 (mc_cut k) T (ms 19) c s R (ms 20) es ma mt = _ from hr1] at this
        cases this
    have hv : me_cell k (ms 19) (mg_S ma) T s R X Y Z es = 108 := by rw [me_cell, if_pos ho1]
    obtain rfl : mt = t91 := by
      have := mg_res_t (h := 108) (cut := mc_cut k) (T := T) (c := c) (s := s) (R := R) (sl := ms 19) (fd := ms 20) (by decide) es ma mt
      rw [show mg_res 108 (mc_cut k) T (ms 19) c s R (ms 20) es ma mt = _ from hr1] at this
      exact this.symm
    rw [hv] at ka
    have ka9 := ka mb1 (am_u1 ms 26 108) (by decide) (fun i hi => by
      have := mg_res_ne (h := 108) (cut := mc_cut k) (T := T) (c := c) (s := s) (R := R) (sl := ms 19) (fd := ms 20) (by decide) hi es ma mt
      rw [show mg_res 108 (mc_cut k) T (ms 19) c s R (ms 20) es ma mt = _ from hr1] at this
      exact this) (fun j hj => by simp only [am_u1, beq_no hj, cond_false])
    refine s_bipush (v := 108) hP t126_105 (by decide) ?_
    refine s_ireturn hP t126_107 rfl rfl ?_
    exact ka9
