/-! A BLOCK KEEPS THE INVARIANT; two like states stay alike; the model's block. -/
theorem me_st_10 {ha a : Nat → Nat → Int32} {q : Nat → Int32} : me_st ha a q 10 = if q 16 = 116 then mc_take ha (a 1) (q 17).toNatClampNeg (q 18).toNatClampNeg else q 10 := by
  simp only [me_st]
  split
  · rfl
  · repeat' split
    all_goals rfl
theorem me_st_12 {ha a : Nat → Nat → Int32} {q : Nat → Int32} : me_st ha a q 12 = if q 16 = 102 then q 17 else q 12 := by
  by_cases h : q 16 = 102
  · rw [me_st, if_neg (by rw [h]; decide), if_neg (by rw [h]; decide), if_pos h, if_pos h]
    rfl
  · rw [if_neg h]
    simp only [me_st, if_neg h]
    repeat' split
    all_goals rfl
theorem me_st_13 {ha a : Nat → Nat → Int32} {q : Nat → Int32} : me_st ha a q 13 = if q 16 = 111 then q 17 else q 13 := by
  by_cases h : q 16 = 111
  · rw [me_st, if_neg (by rw [h]; decide), if_neg (by rw [h]; decide), if_neg (by rw [h]; decide), if_neg (by rw [h]; decide), if_pos h, if_pos h]
    rfl
  · rw [if_neg h]
    simp only [me_st, if_neg h]
    repeat' split
    all_goals rfl
theorem mc_tool_take {ha : Nat → Nat → Int32} {us : Nat → Int32} {k a b sl sp : Int32} (h : mc_tool ha us k a b sl sp = 45) (hk : k = 116) : ¬ mc_take ha us a.toNatClampNeg b.toNatClampNeg = -1 := by
  intro h1
  rw [mc_tool, if_pos hk] at h
  by_cases hs : sp = 0
  · rw [if_neg (fun q => q hs), if_pos h1] at h
    exact absurd h (by decide)
  · rw [if_pos hs] at h
    exact absurd h (by decide)
theorem mx_al_45i {ha : Nat → Nat → Int32} {S T : Nat → Bool} {a : Nat → Nat → Int32} {q : Nat → Int32} {sh R X Y Z : Nat} (h : mx_al ha S T a q sh R X Y Z = 45) : mc_told ha (q 16) (q 17) (q 18) (q 19) = true ∧ mx_tool ha a q = 45 ∧ me_out (mx_es ha a q) = false ∧ (¬ q 10 = -1 → ¬ ml_hit T sh R (mx_es ha a q)) := by
  rw [mx_al] at h
  by_cases h1 : mc_told ha (q 16) (q 17) (q 18) (q 19) = false
  · rw [if_pos h1] at h
    exact absurd h (by decide)
  · rw [if_neg h1] at h
    by_cases h2 : ¬ mx_tool ha a q = 45
    · rw [if_pos h2] at h
      exact absurd h h2
    · rw [if_neg h2, me_cell] at h
      refine ⟨(Bool.not_eq_false _).mp h1, Classical.not_not.mp h2, ?_, fun h3 h4 => ?_⟩
      · cases h3 : me_out (mx_es ha a q) with
        | false => rfl
        | true => rw [if_pos h3] at h; exact absurd h (by decide)
      · split at h
        · exact absurd h (by decide)
        · rw [if_pos ⟨h3, Or.inl (mx_d_iff.mpr h4)⟩] at h
          exact absurd h (by decide)
theorem sx_V_nx {ha : Nat → Nat → Int32} {hz : Int32} {T : Nat → Bool} {M : Nat} {x : sx_X} (hH : sx_H ha hz T M) (hV : sx_V ha T M x) (hN : sx_N x < M) (hW : mw_W (ha 5) M) (h45 : sx_al ha T x = 45) : sx_V ha T M (sx_nx ha hz x) := by
  obtain ⟨p1, p2, p3, p4, p5, p6, p7, p8, p9, p10, b1, b2, b3⟩ := sx_pre hH hV hN
  obtain ⟨t1, t2, t3, t4⟩ := mx_al_45i h45
  obtain ⟨g1, g2, g3, g4⟩ := sx_legs hH hV hN t1
  have hin := me_out_no t3
  have hinn := g2 hin
  obtain ⟨f1, f2, f3⟩ := sx_time (hz := hz) hV hinn
  obtain ⟨v1, v2, v3, v4, v5, v6, v7, v8, v9⟩ := hV
  obtain ⟨hM, hM9, hk, hs0, hs1, ho, hP9, hT⟩ := hH
  obtain ⟨N', n1, n2, n3⟩ := sx_stack (ha := ha) (hz := hz) (a := mx_a ha x.a (sx_q ha x) (sx_sh ha x) (sx_R ha x) x.S) (q := sx_q ha x) p1 hN hM hM9 rfl hW hP9
  have e10 : sx_q ha x 10 = x.s 10 := rfl
  refine ⟨⟨N', n1, n2⟩, ?_, ?_, ?_, fun j hj => ?_, ?_, f3, fun r hr hTr => ?_, ?_⟩
  · show mx_Q ha hz (sx_N x) x.a (sx_q ha x) (sx_sh ha x) (sx_R ha x) x.S 10 = -1 ∨ ∃ c, mx_Q ha hz (sx_N x) x.a (sx_q ha x) (sx_sh ha x) (sx_R ha x) x.S 10 = nI c ∧ c < 12 ∧ ¬ ha 0 c = 0
    rw [mx_Q_lo (by decide) (by decide), me_st_10]
    by_cases h : sx_q ha x 16 = 116
    · rw [if_pos h]
      right
      have ht0 := mc_tool_take t2 h
      obtain ⟨A, B, w1, w2, hA, hB⟩ := mc_told_116 h t1
      rw [w1, w2, nI_clamp (by omega), nI_clamp (by omega)] at ht0
      have hu : mx_a ha x.a (sx_q ha x) (sx_sh ha x) (sx_R ha x) x.S 1 = x.a 1 := mx_u_no (by rw [h]; unfold mx_mv; decide)
      rw [hu, w1, w2, nI_clamp (by omega), nI_clamp (by omega)]
      cases h6 : mc_first (mc_p ha (x.a 1) A B) B (4 - B) with
      | none =>
        exfalso
        apply ht0
        rw [mc_take, h6]
      | some j =>
        obtain ⟨j1, j2, j3⟩ := mc_first_mem _ _ _ h6
        refine ⟨4 * A + j, by rw [mc_take, h6], by omega, ?_⟩
        rw [mc_p, Bool.and_eq_true, decide_eq_true_eq] at j3
        rw [← j3.1]
        rw [h, w1, w2, told_116, mi_slotN, nI_clamp (by omega), Bool.and_eq_true, Bool.and_eq_true, decide_eq_true_eq] at t1
        exact t1.2.2
    · rw [if_neg h]
      exact v2
  · show ∃ F, mx_Q ha hz (sx_N x) x.a (sx_q ha x) (sx_sh ha x) (sx_R ha x) x.S 12 = nI F ∧ 1 ≤ F ∧ F ≤ 50
    rw [mx_Q_lo (by decide) (by decide), me_st_12]
    by_cases h : sx_q ha x 16 = 102
    · rw [if_pos h]
      rw [h, told_102] at t1
      have w := ig_iw t1
      rw [show (1 : Int32).toInt = 1 from rfl, show (50 : Int32).toInt = 50 from rfl] at w
      refine ⟨(sx_q ha x 17).toInt.toNat, ?_, by omega, by omega⟩
      apply Int32.toInt_inj.mp
      rw [nI_toInt (by omega)]
      omega
    · rw [if_neg h]
      exact v3
  · show ∃ O, mx_Q ha hz (sx_N x) x.a (sx_q ha x) (sx_sh ha x) (sx_R ha x) x.S 13 = nI O ∧ O < 4
    rw [mx_Q_lo (by decide) (by decide), me_st_13]
    by_cases h : sx_q ha x 16 = 111
    · rw [if_pos h]
      rw [h, told_111] at t1
      obtain ⟨n, hn, e⟩ := mi_iw_nI (N := 3) rfl (by decide) t1
      exact ⟨n, e, by omega⟩
    · rw [if_neg h]
      exact v4
  · show mi_iw (mx_A ha hz (sx_N x) x.a (sx_q ha x) (sx_sh ha x) (sx_R ha x) (x.a 3 0).toNatClampNeg (x.a 3 1).toNatClampNeg (x.a 3 2).toNatClampNeg x.S 2 j) (-50) 50 = true
    rw [mx_A]
    by_cases g1 : sx_q ha x 16 = 118
    · rw [me_ar, if_pos g1]
      show mi_iw (upd (x.a 2) _ _ j) (-50) 50 = true
      by_cases hjj : j = (sx_q ha x 17).toNatClampNeg
      · rw [hjj, show upd (x.a 2) (sx_q ha x 17).toNatClampNeg _ (sx_q ha x 17).toNatClampNeg = _ from pk_us]
        exact mc_clip_50 _
      · rw [show upd (x.a 2) (sx_q ha x 17).toNatClampNeg _ j = x.a 2 j from pk_un hjj]
        exact v5 j hj
    · by_cases g2 : sx_q ha x 16 = 120
      · rw [me_ar, if_neg g1, if_pos g2]
        show mi_iw (upd (x.a 2) _ _ j) (-50) 50 = true
        by_cases hjj : j = (sx_q ha x 17).toNatClampNeg
        · rw [hjj, show upd (x.a 2) (sx_q ha x 17).toNatClampNeg _ (sx_q ha x 17).toNatClampNeg = _ from pk_us]
          exact mc_clip_50 _
        · rw [show upd (x.a 2) (sx_q ha x 17).toNatClampNeg _ j = x.a 2 j from pk_un hjj]
          exact v5 j hj
      · rw [me_ar_2 g1 g2]
        exact v5 j hj
  · show ig_in (mx_A ha hz (sx_N x) x.a (sx_q ha x) (sx_sh ha x) (sx_R ha x) (x.a 3 0).toNatClampNeg (x.a 3 1).toNatClampNeg (x.a 3 2).toNatClampNeg x.S 3 0) (mx_A ha hz (sx_N x) x.a (sx_q ha x) (sx_sh ha x) (sx_R ha x) (x.a 3 0).toNatClampNeg (x.a 3 1).toNatClampNeg (x.a 3 2).toNatClampNeg x.S 3 1) (mx_A ha hz (sx_N x) x.a (sx_q ha x) (sx_sh ha x) (sx_R ha x) (x.a 3 0).toNatClampNeg (x.a 3 1).toNatClampNeg (x.a 3 2).toNatClampNeg x.S 3 2)
    rw [mx_A, me_ar_3, mx_a_3]
    exact g4 hin
  · show mx_S ha x.a (sx_q ha x) (sx_sh ha x) (sx_R ha x) x.S r = true
    rw [mx_S]
    split
    · rename_i hc
      have hsl := mc_tool_slot t2 (Or.inl hc)
      refine ml_cut_keep _ _ (v8 r hr hTr) (fun p hp => ?_)
      obtain ⟨e, he, k, h1, h2, h3⟩ := ml_all_mem _ hp
      cases h4 : ml_re (sx_sh ha x) (sx_R ha x) p r with
      | false => rfl
      | true =>
        exfalso
        rw [h3] at h4
        exact t4 hsl ⟨e, he, k, h1, h2, r, hr, hTr, h4⟩
    · exact v8 r hr hTr
  · show mi_sum 12 (mx_A ha hz (sx_N x) x.a (sx_q ha x) (sx_sh ha x) (sx_R ha x) (x.a 3 0).toNatClampNeg (x.a 3 1).toNatClampNeg (x.a 3 2).toNatClampNeg x.S 1) = nI (1152 - mr_cnt 1152 (mx_S ha x.a (sx_q ha x) (sx_sh ha x) (sx_R ha x) x.S))
    rw [mx_A, me_ar_1, mx_a_1, mx_u, mx_S]
    by_cases hc : mc_cut (sx_q ha x 16) = true
    · rw [if_pos hc, if_pos hc]
      have hsl := mc_tool_slot t2 (Or.inl hc)
      obtain ⟨c, hc1, hc2, -⟩ := p2.resolve_left hsl
      rw [mi_sum_upd, show sx_q ha x 10 = nI c from hc1, nI_clamp (by omega), if_pos hc2, v9, nI_add]
      have h9 := ml_cc_cut (s := sx_sh ha x) (R := sx_R ha x) (ml_all (mx_es ha x.a (sx_q ha x))) x.S
      have h8 := mr_cnt_le 1152 x.S
      congr 1
      omega
    · rw [if_neg hc, if_neg hc]
      exact v9
theorem sx_V_E {ha : Nat → Nat → Int32} {T : Nat → Bool} {M N : Nat} {x y : sx_X} (hE : sx_E (ha 5) N x y) (hV : sx_V ha T M x) : sx_V ha T M y := by
  obtain ⟨e1, e2, e3, -, e5, e6, e7⟩ := hE
  obtain ⟨v1, v2, v3, v4, v5, v6, v7, v8, v9⟩ := hV
  refine ⟨?_, ?_, ?_, ?_, fun j hj => ?_, ?_, ?_, fun q hq hT => ?_, ?_⟩
  · rw [← e5 8 (by omega) (by omega) (by omega)]; exact v1
  · rw [← e5 10 (by omega) (by omega) (by omega)]; exact v2
  · rw [← e5 12 (by omega) (by omega) (by omega)]; exact v3
  · rw [← e5 13 (by omega) (by omega) (by omega)]; exact v4
  · rw [← e2 j hj]; exact v5 j hj
  · rw [← e3 0 (by omega), ← e3 1 (by omega), ← e3 2 (by omega)]; exact v6
  · rw [← e6]; exact v7
  · rw [← e7 q hq]; exact v8 q hq hT
  · rw [← mi_sum_cg 12 e1, v9, mr_cnt_cg 1152 e7]
theorem sx_N_E {kd : Nat → Int32} {N : Nat} {x y : sx_X} (hE : sx_E kd N x y) : sx_N y = sx_N x := by
  rw [sx_N, sx_N, hE.2.2.2.2.1 8 (by omega) (by omega) (by omega)]
/-- two like states: the same alarm, and like states after the block -/
theorem sx_cong {ha : Nat → Nat → Int32} {hz : Int32} {T : Nat → Bool} {M : Nat} {x y : sx_X} (hH : sx_H ha hz T M) (hV : sx_V ha T M x) (hN : sx_N x < M) (hW : mw_W (ha 5) M) (hE : sx_E (ha 5) (sx_N x) x y) : sx_al ha T x = sx_al ha T y ∧ (sx_al ha T x = 45 → sx_E (ha 5) (sx_N (sx_nx ha hz x)) (sx_nx ha hz x) (sx_nx ha hz y)) := by
  obtain ⟨p1, p2, p3, p4, p5, p6, p7, p8, p9, p10, b1, b2, b3⟩ := sx_pre hH hV hN
  have hNy := sx_N_E hE
  obtain ⟨e1, e2, e3, e4, e5, e6, e7⟩ := id hE
  have hq : ∀ j, 8 ≤ j → j ≤ 19 → j ≠ 11 → sx_q ha x j = sx_q ha y j := by
    intro j h8 h19 h11
    by_cases hj : j ≤ 15
    · rw [sx_q, sx_q, mx_q4_lo hj, mx_q4_lo hj]
      exact e5 j h8 hj h11
    · have : j = 16 ∨ j = 17 ∨ j = 18 ∨ j = 19 := by omega
      rcases this with rfl | rfl | rfl | rfl
      · show ha 5 (sx_N x) = ha 5 (sx_N y)
        rw [hNy]
      · show mc_val (x.a 2) (ha 6 (sx_N x)) = mc_val (y.a 2) (ha 6 (sx_N y))
        rw [hNy, mc_val_cg e2]
      · show mc_val (x.a 2) (ha 7 (sx_N x)) = mc_val (y.a 2) (ha 7 (sx_N y))
        rw [hNy, mc_val_cg e2]
      · show mc_val (x.a 2) (ha 8 (sx_N x)) = mc_val (y.a 2) (ha 8 (sx_N y))
        rw [hNy, mc_val_cg e2]
  have h10 : x.s 10 = y.s 10 := e5 10 (by omega) (by omega) (by omega)
  have hsh : sx_sh ha y = sx_sh ha x := by rw [sx_sh, sx_sh, h10]
  have hR : sx_R ha y = sx_R ha x := by rw [sx_R, sx_R, h10]
  have hal : sx_al ha T x = sx_al ha T y := by
    rw [sx_al, sx_al, hsh, hR, ← e3 0 (by omega), ← e3 1 (by omega), ← e3 2 (by omega)]
    exact mx_al_cg hq e1 e3 e7
  refine ⟨hal, fun h45 => ?_⟩
  obtain ⟨t1, -, -, -⟩ := mx_al_45i h45
  have hsl : (sx_q ha x 10).toNatClampNeg < 12 := by
    rcases p2 with h | ⟨c, h, hc, -⟩
    · rw [show sx_q ha x 10 = -1 from h]; decide
    · rw [show sx_q ha x 10 = nI c from h, nI_clamp (by omega)]; exact hc
  have hg := sx_go_cg (X := (x.a 3 0).toNatClampNeg) (Y := (x.a 3 1).toNatClampNeg) (Z := (x.a 3 2).toNatClampNeg) (s := sx_sh ha x) (R := sx_R ha x) (t := x.t) (q := sx_q ha x) p1 hN hH.1 hH.2.1 rfl hW hH.2.2.2.2.2.2.1 hq hsl t1 e1 e2 e3 e4 e7
  have hy : sx_nx ha hz y = sx_go ha hz (sx_N x) y.a (sx_q ha y) (sx_sh ha x) (sx_R ha x) (x.a 3 0).toNatClampNeg (x.a 3 1).toNatClampNeg (x.a 3 2).toNatClampNeg y.S x.t := by
    rw [sx_nx, hNy, hsh, hR, ← e3 0 (by omega), ← e3 1 (by omega), ← e3 2 (by omega), e6]
  rw [hy]
  exact hg
def mm_H (ha : Nat → Nat → Int32) (T : Nat → Bool) (M : Nat) (ma : Nat → Nat → Int32) (ms : Nat → Int32) : Prop := ms 16 = nI M ∧ (∀ i, i < M → ma 1 i = ha 5 i ∧ ma 5 i = ha 6 i ∧ ma 6 i = ha 7 i ∧ ma 7 i = ha 8 i) ∧ (∀ c, c < 12 → ma 0 c = (if ha 0 c = 0 then 45 else ha 0 c) ∧ ma 2 c = ha 1 c ∧ ma 3 c = ha 2 c) ∧ (∀ j, j < 12 → ma 10 j = ha 4 j) ∧ ∀ q, q < 1152 → ma 13 q = am_b (T q)
theorem sp133s {d : Nat} {K : am_K} {ha : Nat → Nat → Int32} {hz : Int32} {a1 : Nat → Nat → Int32} {s1 : Nat → Int32} {t1 : UInt32} {a2 : Nat → Nat → Int32} {s2 : Nat → Int32} {t2 : UInt32} {al : Int32} {ma : Nat → Nat → Int32} {ms : Nat → Int32} {mt : UInt32} {ol : Nat → Int64} {od : Nat → UInt64} {T : Nat → Bool} {M : Nat} (hH : sx_H ha hz T M) (hh : mm_H ha T M ma ms) (hB : mg_B ma) (hV : sx_V ha T M (mm_x ma ms mt)) (hN : sx_N (mm_x ma ms mt) < M) (hW : mw_W (ha 5) M) (ka : ∀ (mb : Nat → Nat → Int32) (ms9 : Nat → Int32), ¬ sx_al ha T (mm_x ma ms mt) = 45 → (∀ i, i ≠ 12 → mb i = ma i) → (∀ j, j ≠ 26 → ms9 j = ms j) → K (some (.int (sx_al ha T (mm_x ma ms mt)))) (am_W ha hz a1 s1 t1 a2 s2 t2 al mb ms9 mt ol od)) (kf : ∀ (mb : Nat → Nat → Int32) (ms9 : Nat → Int32) (t9 : UInt32), sx_al ha T (mm_x ma ms mt) = 45 → mm_ok ma ms mb ms9 → mg_B mb → sx_E (ha 5) (sx_N (sx_nx ha hz (mm_x ma ms mt))) (sx_nx ha hz (mm_x ma ms mt)) (mm_x mb (mm_up ms9) t9) → K (some (.int 45)) (am_W ha hz a1 s1 t1 a2 s2 t2 al mb ms9 t9 ol od)) : am_Run (d + 7) 133 [.ref 39] (am_W ha hz a1 s1 t1 a2 s2 t2 al ma ms mt ol od) K := by
  obtain ⟨p1, p2, p3, p4, p5, p6, p7, p8, p9, p10, b1, b2, b3⟩ := sx_pre hH hV hN
  obtain ⟨h1, h2, h3, h4, h5⟩ := hh
  have hm1 : ms 19 = -1 ∨ mg_req ma ms (ms 19).toNatClampNeg (sx_sh ha (mm_x ma ms mt)) (sx_R ha (mm_x ma ms mt)) := by
    rcases p2 with h | ⟨c, h, hc, g1, g2⟩
    · exact Or.inl h
    · right
      replace h : ms 19 = nI c := h
      have hcc : (ms 19).toNatClampNeg = c := by rw [h]; exact nI_clamp (by omega)
      rw [hcc]
      refine ⟨h, hc, ?_, ?_, p3, p4⟩
      · rw [(h3 c hc).1, if_neg, g1]
        rw [g1]
        exact nI_ne0 (by omega) (by omega)
      · rw [(h3 c hc).2.1, g2]
  refine sp133 (c := (ms 19).toNatClampNeg) (q := sx_q ha (mm_x ma ms mt)) (N := sx_N (mm_x ma ms mt)) (M := M) (T := T) rfl p1 hN hH.1 hH.2.1 (fun i hi => (h2 i hi).1) (fun i hi => (h2 i hi).2.1) (fun i hi => (h2 i hi).2.2.1) (fun i hi => (h2 i hi).2.2.2) (fun i hi => (hH.2.2.1 i hi).2) (fun c hc => (h3 c hc).1) hH.2.2.2.1 (fun c hc => (h3 c hc).2.1) (fun c hc => (h3 c hc).2.2) h4 hB h5 hm1 p5 p6 p7 p8 p9 p10 hV.2.2.2.1 b1 b2 b3 (fun t => (sx_legs hH hV hN t).1) (fun t h e he => ((sx_legs hH hV hN t).2.1 h e he).1) (fun t => (sx_legs hH hV hN t).2.2.1) (fun t h => ?_) hW hH.2.2.2.2.2.2.1 (hH.2.2.1 _ hN).1 ka kf
  have g := sx_legs hH hV hN t
  have hi : ∀ e ∈ mx_es ha (mm_x ma ms mt).a (sx_q ha (mm_x ma ms mt)), ml_ins e = true := g.2.2.1 (fun e he => mg_at_inn (h e he))
  obtain ⟨f1, f2, -⟩ := sx_time (hz := hz) hV (g.2.1 hi)
  exact ⟨f1, f2⟩
