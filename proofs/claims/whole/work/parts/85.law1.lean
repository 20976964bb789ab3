/-! THE LAW'S GROUPS: what is kept from one to the next; the plain questions. (rows by gen/sp38.py) -/
def lw_I (g : Nat) (ha : Nat → Nat → Int32) (hz : Int32) (a1 : Nat → Nat → Int32) (s1 : Nat → Int32) (t1 : UInt32) (al : Int32) (ma : Nat → Nat → Int32) (ms : Nat → Int32) (mt : UInt32) : Prop := ∃ (T : Nat → Bool) (M D : Nat) (S : Nat → Bool), sx_H ha hz T M ∧ mm_H ha T M ma ms ∧ sx_run ha hz T M D ∧ (0 < D → mw_W (ha 5) M) ∧ (∀ j, j < 72 → a1 0 j = mr_w (fun q => S (16 * j + q))) ∧ sx_E (ha 5) (sx_N (sx_it ha hz D sx_0)) (sx_it ha hz D sx_0) (a1, s1, t1, S) ∧ mm_R ha hz D ma ms mt ∧ al = ms 25 ∧ narrow .char (.int al) = .int al ∧ D ≤ 100 * g
theorem lw_I_15 {g : Nat} {ha : Nat → Nat → Int32} {hz : Int32} {a1 : Nat → Nat → Int32} {s1 : Nat → Int32} {t1 : UInt32} {al : Int32} {ma : Nat → Nat → Int32} {ms : Nat → Int32} {mt : UInt32} {v : Int32} (h : lw_I g ha hz a1 s1 t1 al ma ms mt) : lw_I (g + 1) ha hz a1 s1 t1 al ma (am_u1 ms 15 v) mt := by
  obtain ⟨T, M, D, S, h1, h2, h3, h4, h5, h6, h7, h8, h9, h10⟩ := h
  exact ⟨T, M, D, S, h1, mm_H_ok (fun _ _ _ _ _ _ _ => rfl) rfl h2, h3, h4, h5, h6, mm_R_cg rfl rfl rfl rfl rfl (fun j g1 g2 => by rw [am_u1_no (by omega)]) h7, h8, h9, by omega⟩
theorem lw_I_up {g : Nat} {ha : Nat → Nat → Int32} {hz : Int32} {a1 : Nat → Nat → Int32} {s1 : Nat → Int32} {t1 : UInt32} {al : Int32} {ma : Nat → Nat → Int32} {ms : Nat → Int32} {mt : UInt32} (h : lw_I g ha hz a1 s1 t1 al ma ms mt) : lw_I (g + 1) ha hz a1 s1 t1 al ma ms mt := by
  obtain ⟨T, M, D, S, h1, h2, h3, h4, h5, h6, h7, h8, h9, h10⟩ := h
  exact ⟨T, M, D, S, h1, h2, h3, h4, h5, h6, h7, h8, h9, by omega⟩
/-- what both sides have in common -/
theorem lw_both {g : Nat} {ha : Nat → Nat → Int32} {hz : Int32} {a1 : Nat → Nat → Int32} {s1 : Nat → Int32} {t1 : UInt32} {al : Int32} {ma : Nat → Nat → Int32} {ms : Nat → Int32} {mt : UInt32} (h : lw_I g ha hz a1 s1 t1 al ma ms mt) : ∃ (T : Nat → Bool) (M D : Nat) (S : Nat → Bool), sx_H ha hz T M ∧ mm_H ha T M ma ms ∧ sx_run ha hz T M D ∧ (0 < D → mw_W (ha 5) M) ∧ (∀ j, j < 72 → a1 0 j = mr_w (fun q => S (16 * j + q))) ∧ sx_E (ha 5) (sx_N (sx_it ha hz D sx_0)) (sx_it ha hz D sx_0) (a1, s1, t1, S) ∧ D ≤ 100 * g ∧ sx_V ha T M (a1, s1, t1, S) ∧ s1 8 = ms 17 ∧ s1 9 = ms 18 ∧ s1 10 = ms 19 ∧ t1 = mt ∧ (∀ c, c < 12 → a1 1 c = ma 4 c) ∧ (∀ j, j < 8 → a1 2 j = ma 9 j) ∧ (∀ j, j < 3 → a1 3 j = ma 11 j) ∧ (∀ q, q < 1152 → ma 14 q = am_b (!S q)) := by
  obtain ⟨T, M, D, S, h1, h2, h3, h4, h5, h6, ⟨h7, h11⟩, h8, h9, h10⟩ := h
  have hV : sx_V ha T M (a1, s1, t1, S) := by
    by_cases h0 : D = 0
    · subst h0
      exact sx_V_E h6 sx_V_0
    · exact sx_V_E h6 (sx_it_V h1 (h4 (by omega)) D h3)
  obtain ⟨e1, e2, e3, e4, e5, e6, e7⟩ := id h6
  obtain ⟨f1, f2, f3, f4, f5, f6, f7⟩ := h11
  exact ⟨T, M, D, S, h1, h2, h3, h4, h5, h6, h10, hV, (e5 8 (by omega) (by omega) (by omega)).symm.trans (f5 8 (by omega) (by omega) (by omega)), (e5 9 (by omega) (by omega) (by omega)).symm.trans (f5 9 (by omega) (by omega) (by omega)), (e5 10 (by omega) (by omega) (by omega)).symm.trans (f5 10 (by omega) (by omega) (by omega)), e6.symm.trans f6, fun c hc => (e1 c hc).symm.trans (f1 c hc), fun j hj => (e2 j hj).symm.trans (f2 j hj), fun j hj => (e3 j hj).symm.trans (f3 j hj), fun q hq => by
    rw [h7 q hq]
    exact congrArg (fun b => am_b (!b)) ((f7 q hq).symm.trans (e7 q hq))⟩
set_option maxHeartbeats 4000000 in
theorem xw_697 {P : am_P} (hm : am_mono P) {L : Nat} {xs : Nat → Int32} (hP : xm_HP (some (L, xs)) 15 27 xl_K P) {ha : Nat → Nat → Int32} {hz : Int32} {a1 : Nat → Nat → Int32} {s1 : Nat → Int32} {t1 : UInt32} {a2 : Nat → Nat → Int32} {s2 : Nat → Int32} {t2 : UInt32} {al : Int32} {ma : Nat → Nat → Int32} {ms : Nat → Int32} {mt : UInt32} {ol : Nat → Int64} {od : Nat → UInt64} {g : Nat} (hg : 6 * g + 6 ≤ L) (hL : L ≤ 3072) (hI : lw_I g ha hz a1 s1 t1 al ma ms mt) {bc bs : Nat} (hbc : 512 - g ≤ bc) (hbs : 6 * (512 - g) ≤ bs) (hn : ∀ (ha : Nat → Nat → Int32) (hz : Int32) (a1 : Nat → Nat → Int32) (s1 : Nat → Int32) (t1 : UInt32) (a2 : Nat → Nat → Int32) (s2 : Nat → Int32) (t2 : UInt32) (al : Int32) (ma : Nat → Nat → Int32) (ms : Nat → Int32) (mt : UInt32) (ol : Nat → Int64) (od : Nat → UInt64), lw_I (g + 1) ha hz a1 s1 t1 al ma ms mt → ∀ bc bs : Nat, 511 - g ≤ bc → 6 * (511 - g) ≤ bs → P 28 [some (.ref 1500), some (.ref 0), some (.ref 39), some (.ref 55), some (.ref 56), some (.int (nI (6 * (g + 1)))), none, none, none, none] [] (am_W ha hz a1 s1 t1 a2 s2 t2 al ma ms mt ol od) bc bs) : P 697 [some (.ref 1500), some (.ref 0), some (.ref 39), some (.ref 55), some (.ref 56), some (.int (nI (6 * g))), none, none, none, none] [] (am_W ha hz a1 s1 t1 a2 s2 t2 al ma ms mt ol od) bc bs := by
  obtain ⟨T, M, D, S, hH, hh, hr, hWD, hS, hE, hD, hV, e8, e9, e10, et, eu, ev, ep, hB⟩ := lw_both hI
  obtain ⟨-, -, -, -, -, -, -, -, -, -, -, hal, hnar, -⟩ := id hI
  refine x_aload_n hP u27_697 rfl ?_
  refine x_invokevirtual (bc' := bc) (bs' := bs) hP u27_698 rfl rfl rfl rfl rfl ?_
  refine sp72 hnar ?_
  refine x_aload_n hP u27_701 rfl ?_
  refine x_invokevirtual (bc' := bc) (bs' := bs) hP u27_702 rfl rfl rfl rfl rfl ?_
  refine sp136 (by rw [← hal]; exact hnar) ?_
  refine x_icmp_eq hP u27_705 (fun q705 => ?_) (fun q705 => ?_)
  · refine x_iinc_5 (v := 6) hP u27_1388 (by decide) (by exact rfl) ?_
    refine x_goto hP u27_1391 ?_
    rw [show nI (6 * g) + 6 = nI (6 * (g + 1)) from nI_add (6 * g) 6]
    refine hm _ _ _ _ _ _ _ (by repeat (first | exact am_le_nil | apply am_le_cons | apply am_le_none)) (hn _ _ _ _ _ _ _ _ _ _ _ _ _ _ (lw_I_15 hI) _ _ (by omega) (by omega))
  · exact absurd hal q705
set_option maxHeartbeats 4000000 in
theorem xw_723 {P : am_P} (hm : am_mono P) {L : Nat} {xs : Nat → Int32} (hP : xm_HP (some (L, xs)) 15 27 xl_K P) {ha : Nat → Nat → Int32} {hz : Int32} {a1 : Nat → Nat → Int32} {s1 : Nat → Int32} {t1 : UInt32} {a2 : Nat → Nat → Int32} {s2 : Nat → Int32} {t2 : UInt32} {al : Int32} {ma : Nat → Nat → Int32} {ms : Nat → Int32} {mt : UInt32} {ol : Nat → Int64} {od : Nat → UInt64} {g : Nat} (hg : 6 * g + 6 ≤ L) (hL : L ≤ 3072) (hI : lw_I g ha hz a1 s1 t1 al ma ms mt) {bc bs : Nat} (hbc : 512 - g ≤ bc) (hbs : 6 * (512 - g) ≤ bs) (hn : ∀ (ha : Nat → Nat → Int32) (hz : Int32) (a1 : Nat → Nat → Int32) (s1 : Nat → Int32) (t1 : UInt32) (a2 : Nat → Nat → Int32) (s2 : Nat → Int32) (t2 : UInt32) (al : Int32) (ma : Nat → Nat → Int32) (ms : Nat → Int32) (mt : UInt32) (ol : Nat → Int64) (od : Nat → UInt64), lw_I (g + 1) ha hz a1 s1 t1 al ma ms mt → ∀ bc bs : Nat, 511 - g ≤ bc → 6 * (511 - g) ≤ bs → P 28 [some (.ref 1500), some (.ref 0), some (.ref 39), some (.ref 55), some (.ref 56), some (.int (nI (6 * (g + 1)))), none, none, none, none] [] (am_W ha hz a1 s1 t1 a2 s2 t2 al ma ms mt ol od) bc bs) : P 723 [some (.ref 1500), some (.ref 0), some (.ref 39), some (.ref 55), some (.ref 56), some (.int (nI (6 * g))), none, none, none, none] [] (am_W ha hz a1 s1 t1 a2 s2 t2 al ma ms mt ol od) bc bs := by
  obtain ⟨T, M, D, S, hH, hh, hr, hWD, hS, hE, hD, hV, e8, e9, e10, et, eu, ev, ep, hB⟩ := lw_both hI
  obtain ⟨-, -, -, -, -, -, -, -, -, -, -, hal, hnar, -⟩ := id hI
  refine x_aload_n hP u27_723 rfl ?_
  refine x_invokevirtual (bc' := bc) (bs' := bs) hP u27_724 rfl rfl rfl rfl rfl ?_
  refine sp74 ?_
  refine x_aload_n hP u27_727 rfl ?_
  refine x_invokevirtual (bc' := bc) (bs' := bs) hP u27_728 rfl rfl rfl rfl rfl ?_
  refine sp138 ?_
  refine x_icmp_eq hP u27_731 (fun q731 => ?_) (fun q731 => ?_)
  · refine x_iinc_5 (v := 6) hP u27_1388 (by decide) (by exact rfl) ?_
    refine x_goto hP u27_1391 ?_
    rw [show nI (6 * g) + 6 = nI (6 * (g + 1)) from nI_add (6 * g) 6]
    refine hm _ _ _ _ _ _ _ (by repeat (first | exact am_le_nil | apply am_le_cons | apply am_le_none)) (hn _ _ _ _ _ _ _ _ _ _ _ _ _ _ (lw_I_15 hI) _ _ (by omega) (by omega))
  · exact absurd e8 q731
set_option maxHeartbeats 4000000 in
theorem xw_736 {P : am_P} (hm : am_mono P) {L : Nat} {xs : Nat → Int32} (hP : xm_HP (some (L, xs)) 15 27 xl_K P) {ha : Nat → Nat → Int32} {hz : Int32} {a1 : Nat → Nat → Int32} {s1 : Nat → Int32} {t1 : UInt32} {a2 : Nat → Nat → Int32} {s2 : Nat → Int32} {t2 : UInt32} {al : Int32} {ma : Nat → Nat → Int32} {ms : Nat → Int32} {mt : UInt32} {ol : Nat → Int64} {od : Nat → UInt64} {g : Nat} (hg : 6 * g + 6 ≤ L) (hL : L ≤ 3072) (hI : lw_I g ha hz a1 s1 t1 al ma ms mt) {bc bs : Nat} (hbc : 512 - g ≤ bc) (hbs : 6 * (512 - g) ≤ bs) (hn : ∀ (ha : Nat → Nat → Int32) (hz : Int32) (a1 : Nat → Nat → Int32) (s1 : Nat → Int32) (t1 : UInt32) (a2 : Nat → Nat → Int32) (s2 : Nat → Int32) (t2 : UInt32) (al : Int32) (ma : Nat → Nat → Int32) (ms : Nat → Int32) (mt : UInt32) (ol : Nat → Int64) (od : Nat → UInt64), lw_I (g + 1) ha hz a1 s1 t1 al ma ms mt → ∀ bc bs : Nat, 511 - g ≤ bc → 6 * (511 - g) ≤ bs → P 28 [some (.ref 1500), some (.ref 0), some (.ref 39), some (.ref 55), some (.ref 56), some (.int (nI (6 * (g + 1)))), none, none, none, none] [] (am_W ha hz a1 s1 t1 a2 s2 t2 al ma ms mt ol od) bc bs) : P 736 [some (.ref 1500), some (.ref 0), some (.ref 39), some (.ref 55), some (.ref 56), some (.int (nI (6 * g))), none, none, none, none] [] (am_W ha hz a1 s1 t1 a2 s2 t2 al ma ms mt ol od) bc bs := by
  obtain ⟨T, M, D, S, hH, hh, hr, hWD, hS, hE, hD, hV, e8, e9, e10, et, eu, ev, ep, hB⟩ := lw_both hI
  obtain ⟨-, -, -, -, -, -, -, -, -, -, -, hal, hnar, -⟩ := id hI
  refine x_aload_n hP u27_736 rfl ?_
  refine x_invokevirtual (bc' := bc) (bs' := bs) hP u27_737 rfl rfl rfl rfl rfl ?_
  refine sp75 ?_
  refine x_aload_n hP u27_740 rfl ?_
  refine x_invokevirtual (bc' := bc) (bs' := bs) hP u27_741 rfl rfl rfl rfl rfl ?_
  refine sp139 ?_
  refine x_icmp_eq hP u27_744 (fun q744 => ?_) (fun q744 => ?_)
  · refine x_iinc_5 (v := 6) hP u27_1388 (by decide) (by exact rfl) ?_
    refine x_goto hP u27_1391 ?_
    rw [show nI (6 * g) + 6 = nI (6 * (g + 1)) from nI_add (6 * g) 6]
    refine hm _ _ _ _ _ _ _ (by repeat (first | exact am_le_nil | apply am_le_cons | apply am_le_none)) (hn _ _ _ _ _ _ _ _ _ _ _ _ _ _ (lw_I_15 hI) _ _ (by omega) (by omega))
  · exact absurd e9 q744
set_option maxHeartbeats 4000000 in
theorem xw_861 {P : am_P} (hm : am_mono P) {L : Nat} {xs : Nat → Int32} (hP : xm_HP (some (L, xs)) 15 27 xl_K P) {ha : Nat → Nat → Int32} {hz : Int32} {a1 : Nat → Nat → Int32} {s1 : Nat → Int32} {t1 : UInt32} {a2 : Nat → Nat → Int32} {s2 : Nat → Int32} {t2 : UInt32} {al : Int32} {ma : Nat → Nat → Int32} {ms : Nat → Int32} {mt : UInt32} {ol : Nat → Int64} {od : Nat → UInt64} {g : Nat} (hg : 6 * g + 6 ≤ L) (hL : L ≤ 3072) (hI : lw_I g ha hz a1 s1 t1 al ma ms mt) {bc bs : Nat} (hbc : 512 - g ≤ bc) (hbs : 6 * (512 - g) ≤ bs) (hn : ∀ (ha : Nat → Nat → Int32) (hz : Int32) (a1 : Nat → Nat → Int32) (s1 : Nat → Int32) (t1 : UInt32) (a2 : Nat → Nat → Int32) (s2 : Nat → Int32) (t2 : UInt32) (al : Int32) (ma : Nat → Nat → Int32) (ms : Nat → Int32) (mt : UInt32) (ol : Nat → Int64) (od : Nat → UInt64), lw_I (g + 1) ha hz a1 s1 t1 al ma ms mt → ∀ bc bs : Nat, 511 - g ≤ bc → 6 * (511 - g) ≤ bs → P 28 [some (.ref 1500), some (.ref 0), some (.ref 39), some (.ref 55), some (.ref 56), some (.int (nI (6 * (g + 1)))), none, none, none, none] [] (am_W ha hz a1 s1 t1 a2 s2 t2 al ma ms mt ol od) bc bs) : P 861 [some (.ref 1500), some (.ref 0), some (.ref 39), some (.ref 55), some (.ref 56), some (.int (nI (6 * g))), none, none, none, none] [] (am_W ha hz a1 s1 t1 a2 s2 t2 al ma ms mt ol od) bc bs := by
  obtain ⟨T, M, D, S, hH, hh, hr, hWD, hS, hE, hD, hV, e8, e9, e10, et, eu, ev, ep, hB⟩ := lw_both hI
  obtain ⟨-, -, -, -, -, -, -, -, -, -, -, hal, hnar, -⟩ := id hI
  refine x_aload_n hP u27_861 rfl ?_
  refine x_invokevirtual (bc' := bc) (bs' := bs) hP u27_862 rfl rfl rfl rfl rfl ?_
  refine sp76 ?_
  refine x_aload_n hP u27_865 rfl ?_
  refine x_invokevirtual (bc' := bc) (bs' := bs) hP u27_866 rfl rfl rfl rfl rfl ?_
  refine sp142 ?_
  refine x_icmp_eq hP u27_869 (fun q869 => ?_) (fun q869 => ?_)
  · refine x_iinc_5 (v := 6) hP u27_1388 (by decide) (by exact rfl) ?_
    refine x_goto hP u27_1391 ?_
    rw [show nI (6 * g) + 6 = nI (6 * (g + 1)) from nI_add (6 * g) 6]
    refine hm _ _ _ _ _ _ _ (by repeat (first | exact am_le_nil | apply am_le_cons | apply am_le_none)) (hn _ _ _ _ _ _ _ _ _ _ _ _ _ _ (lw_I_15 hI) _ _ (by omega) (by omega))
  · exact absurd e10 q869
set_option maxHeartbeats 4000000 in
theorem xw_710 {P : am_P} (hm : am_mono P) {L : Nat} {xs : Nat → Int32} (hP : xm_HP (some (L, xs)) 15 27 xl_K P) {ha : Nat → Nat → Int32} {hz : Int32} {a1 : Nat → Nat → Int32} {s1 : Nat → Int32} {t1 : UInt32} {a2 : Nat → Nat → Int32} {s2 : Nat → Int32} {t2 : UInt32} {al : Int32} {ma : Nat → Nat → Int32} {ms : Nat → Int32} {mt : UInt32} {ol : Nat → Int64} {od : Nat → UInt64} {g : Nat} (hg : 6 * g + 6 ≤ L) (hL : L ≤ 3072) (hI : lw_I g ha hz a1 s1 t1 al ma ms mt) {bc bs : Nat} (hbc : 512 - g ≤ bc) (hbs : 6 * (512 - g) ≤ bs) (hn : ∀ (ha : Nat → Nat → Int32) (hz : Int32) (a1 : Nat → Nat → Int32) (s1 : Nat → Int32) (t1 : UInt32) (a2 : Nat → Nat → Int32) (s2 : Nat → Int32) (t2 : UInt32) (al : Int32) (ma : Nat → Nat → Int32) (ms : Nat → Int32) (mt : UInt32) (ol : Nat → Int64) (od : Nat → UInt64), lw_I (g + 1) ha hz a1 s1 t1 al ma ms mt → ∀ bc bs : Nat, 511 - g ≤ bc → 6 * (511 - g) ≤ bs → P 28 [some (.ref 1500), some (.ref 0), some (.ref 39), some (.ref 55), some (.ref 56), some (.int (nI (6 * (g + 1)))), none, none, none, none] [] (am_W ha hz a1 s1 t1 a2 s2 t2 al ma ms mt ol od) bc bs) : P 710 [some (.ref 1500), some (.ref 0), some (.ref 39), some (.ref 55), some (.ref 56), some (.int (nI (6 * g))), none, none, none, none] [] (am_W ha hz a1 s1 t1 a2 s2 t2 al ma ms mt ol od) bc bs := by
  obtain ⟨T, M, D, S, hH, hh, hr, hWD, hS, hE, hD, hV, e8, e9, e10, et, eu, ev, ep, hB⟩ := lw_both hI
  obtain ⟨-, -, -, -, -, -, -, -, -, -, -, hal, hnar, -⟩ := id hI
  refine x_aload_n hP u27_710 rfl ?_
  refine x_invokevirtual (bc' := bc) (bs' := bs) hP u27_711 rfl rfl rfl rfl rfl ?_
  refine sp73 ?_
  refine x_aload_n hP u27_714 rfl ?_
  refine x_invokevirtual (bc' := bc) (bs' := bs) hP u27_715 rfl rfl rfl rfl rfl ?_
  refine sp137 ?_
  refine x_icmp_eq hP u27_718 (fun q718 => ?_) (fun q718 => ?_)
  · refine x_iinc_5 (v := 6) hP u27_1388 (by decide) (by exact rfl) ?_
    refine x_goto hP u27_1391 ?_
    rw [show nI (6 * g) + 6 = nI (6 * (g + 1)) from nI_add (6 * g) 6]
    refine hm _ _ _ _ _ _ _ (by repeat (first | exact am_le_nil | apply am_le_cons | apply am_le_none)) (hn _ _ _ _ _ _ _ _ _ _ _ _ _ _ (lw_I_15 hI) _ _ (by omega) (by omega))
  · exact absurd (congrArg am_b (decide_eq_decide.mpr (by
      obtain ⟨N, v1, v2⟩ := hV.1
      replace v1 : s1 8 = nI N := v1
      have hM9 := hH.2.1
      rw [hH.1, v1, ← e8, v1, hh.1, nI_leI (by omega) (by omega)]
      constructor
      · intro q
        rw [show N = M by omega]
      · intro q
        rw [(nI_inj (by omega) (by omega)).mp q]
        exact Nat.le_refl _))) q718
set_option maxHeartbeats 4000000 in
theorem xw_1116 {P : am_P} (hm : am_mono P) {L : Nat} {xs : Nat → Int32} (hP : xm_HP (some (L, xs)) 15 27 xl_K P) {ha : Nat → Nat → Int32} {hz : Int32} {a1 : Nat → Nat → Int32} {s1 : Nat → Int32} {t1 : UInt32} {a2 : Nat → Nat → Int32} {s2 : Nat → Int32} {t2 : UInt32} {al : Int32} {ma : Nat → Nat → Int32} {ms : Nat → Int32} {mt : UInt32} {ol : Nat → Int64} {od : Nat → UInt64} {g : Nat} (hg : 6 * g + 6 ≤ L) (hL : L ≤ 3072) (hI : lw_I g ha hz a1 s1 t1 al ma ms mt) {bc bs : Nat} (hbc : 512 - g ≤ bc) (hbs : 6 * (512 - g) ≤ bs) (hn : ∀ (ha : Nat → Nat → Int32) (hz : Int32) (a1 : Nat → Nat → Int32) (s1 : Nat → Int32) (t1 : UInt32) (a2 : Nat → Nat → Int32) (s2 : Nat → Int32) (t2 : UInt32) (al : Int32) (ma : Nat → Nat → Int32) (ms : Nat → Int32) (mt : UInt32) (ol : Nat → Int64) (od : Nat → UInt64), lw_I (g + 1) ha hz a1 s1 t1 al ma ms mt → ∀ bc bs : Nat, 511 - g ≤ bc → 6 * (511 - g) ≤ bs → P 28 [some (.ref 1500), some (.ref 0), some (.ref 39), some (.ref 55), some (.ref 56), some (.int (nI (6 * (g + 1)))), none, none, none, none] [] (am_W ha hz a1 s1 t1 a2 s2 t2 al ma ms mt ol od) bc bs) : P 1116 [some (.ref 1500), some (.ref 0), some (.ref 39), some (.ref 55), some (.ref 56), some (.int (nI (6 * g))), none, none, none, none] [] (am_W ha hz a1 s1 t1 a2 s2 t2 al ma ms mt ol od) bc bs := by
  obtain ⟨T, M, D, S, hH, hh, hr, hWD, hS, hE, hD, hV, e8, e9, e10, et, eu, ev, ep, hB⟩ := lw_both hI
  obtain ⟨-, -, -, -, -, -, -, -, -, -, -, hal, hnar, -⟩ := id hI
  refine x_aload_n hP u27_1116 rfl ?_
  refine x_invokevirtual (bc' := bc) (bs' := bs) hP u27_1117 rfl rfl rfl rfl rfl ?_
  refine sp77 hS ?_
  refine x_aload_n hP u27_1120 rfl ?_
  refine x_invokevirtual (bc' := bc) (bs' := bs) hP u27_1121 rfl rfl rfl rfl rfl ?_
  refine sp147 hB ?_
  refine x_icmp_eq hP u27_1124 (fun q1124 => ?_) (fun q1124 => ?_)
  · refine x_iinc_5 (v := 6) hP u27_1388 (by decide) (by exact rfl) ?_
    refine x_goto hP u27_1391 ?_
    rw [show nI (6 * g) + 6 = nI (6 * (g + 1)) from nI_add (6 * g) 6]
    refine hm _ _ _ _ _ _ _ (by repeat (first | exact am_le_nil | apply am_le_cons | apply am_le_none)) (hn _ _ _ _ _ _ _ _ _ _ _ _ _ _ (lw_I_15 hI) _ _ (by omega) (by omega))
  · exact absurd rfl q1124
set_option maxHeartbeats 4000000 in
theorem xw_615 {P : am_P} (hm : am_mono P) {L : Nat} {xs : Nat → Int32} (hP : xm_HP (some (L, xs)) 15 27 xl_K P) {ha : Nat → Nat → Int32} {hz : Int32} {a1 : Nat → Nat → Int32} {s1 : Nat → Int32} {t1 : UInt32} {a2 : Nat → Nat → Int32} {s2 : Nat → Int32} {t2 : UInt32} {al : Int32} {ma : Nat → Nat → Int32} {ms : Nat → Int32} {mt : UInt32} {ol : Nat → Int64} {od : Nat → UInt64} {g : Nat} (hg : 6 * g + 6 ≤ L) (hL : L ≤ 3072) (hI : lw_I g ha hz a1 s1 t1 al ma ms mt) {bc bs : Nat} (hbc : 512 - g ≤ bc) (hbs : 6 * (512 - g) ≤ bs) (hn : ∀ (ha : Nat → Nat → Int32) (hz : Int32) (a1 : Nat → Nat → Int32) (s1 : Nat → Int32) (t1 : UInt32) (a2 : Nat → Nat → Int32) (s2 : Nat → Int32) (t2 : UInt32) (al : Int32) (ma : Nat → Nat → Int32) (ms : Nat → Int32) (mt : UInt32) (ol : Nat → Int64) (od : Nat → UInt64), lw_I (g + 1) ha hz a1 s1 t1 al ma ms mt → ∀ bc bs : Nat, 511 - g ≤ bc → 6 * (511 - g) ≤ bs → P 28 [some (.ref 1500), some (.ref 0), some (.ref 39), some (.ref 55), some (.ref 56), some (.int (nI (6 * (g + 1)))), none, none, none, none] [] (am_W ha hz a1 s1 t1 a2 s2 t2 al ma ms mt ol od) bc bs) : P 615 [some (.ref 1500), some (.ref 0), some (.ref 39), some (.ref 55), some (.ref 56), some (.int (nI (6 * g))), none, none, none, none] [] (am_W ha hz a1 s1 t1 a2 s2 t2 al ma ms mt ol od) bc bs := by
  obtain ⟨T, M, D, S, hH, hh, hr, hWD, hS, hE, hD, hV, e8, e9, e10, et, eu, ev, ep, hB⟩ := lw_both hI
  obtain ⟨-, -, -, -, -, -, -, -, -, -, -, hal, hnar, -⟩ := id hI
  refine x_aload_n hP u27_615 rfl ?_
  refine x_invokevirtual (bc' := bc) (bs' := bs) hP u27_616 rfl rfl rfl rfl rfl ?_
  refine sp70 hH.1 hH.2.1 hH.2.2.2.2.2.2.1 (fun v hv => ?_)
  refine x_aload_n hP u27_619 rfl ?_
  refine x_invokevirtual (bc' := bc) (bs' := bs) hP u27_620 rfl rfl rfl rfl rfl ?_
  refine sp113 hh.1 hH.2.1 (fun v2 hv2 => ?_)
  refine x_icmp_eq hP u27_623 (fun q623 => ?_) (fun q623 => ?_)
  · refine x_iinc_5 (v := 6) hP u27_1388 (by decide) (by exact rfl) ?_
    refine x_goto hP u27_1391 ?_
    rw [show nI (6 * g) + 6 = nI (6 * (g + 1)) from nI_add (6 * g) 6]
    refine hm _ _ _ _ _ _ _ (by repeat (first | exact am_le_nil | apply am_le_cons | apply am_le_none)) (hn _ _ _ _ _ _ _ _ _ _ _ _ _ _ (lw_I_15 hI) _ _ (by omega) (by omega))
  · exact absurd (congrArg am_b (by
      have h9 := mw_W_cg (n := M) (fun i hi => (hh.2.1 i hi).1)
      rw [Bool.eq_iff_iff, hv, hv2]
      exact h9.symm)) q623
