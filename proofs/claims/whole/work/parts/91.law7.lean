/-! THE LAW'S GROUPS: addBlock, setFixture. (rows by gen/sp44.py) -/
theorem lw_upd {f g : Nat → Int32} {n : Nat} {x : Int32} (h : ∀ i, i < n → f i = g i) : ∀ i, i < n + 1 → upd f n x i = upd g n x i := by
  intro i hi
  by_cases e : i = n
  · rw [e]; exact pk_us.trans pk_us.symm
  · exact (pk_un e).trans ((h i (by omega)).trans (pk_un e).symm)
theorem mp_app_i {ha : Nat → Nat → Int32} {n i : Nat} {x y z u : Int32} (h : i ≠ 9) : mp_app ha n x y z u i = mp_app9 ha n x y z u i := by
  rw [mp_app]
  split
  · simp only [mp_app9, am_u2, beq_no h, cond_false]
  · rfl
theorem lw_app {ha : Nat → Nat → Int32} {hz : Int32} {T : Nat → Bool} {n : Nat} {ma : Nat → Nat → Int32} {ms : Nat → Int32} {x y z u : Int32} (hn : n < 64) (hx : mi_kind x = true) (hy : mi_term y = true) (hz9 : mi_term z = true) (hu : mi_term u = true) (hH : sx_H ha hz T n) (hh : mm_H ha T n ma ms) : sx_H (mp_app ha n x y z u) (nI (n + 1)) T (n + 1) ∧ mm_H (mp_app ha n x y z u) T (n + 1) (mb_app ma n x y z u) (am_u1 (am_u1 ms 15 0) 16 (nI (n + 1))) := by
  obtain ⟨h1, h2, h3, h4, h5, h6, h7, h8⟩ := hH
  obtain ⟨g1, g2, g3, g4, g5⟩ := hh
  have e5 : mp_app ha n x y z u 5 = upd (ha 5) n x := mp_app_i (by decide)
  have e6 : mp_app ha n x y z u 6 = upd (ha 6) n y := mp_app_i (by decide)
  have e7 : mp_app ha n x y z u 7 = upd (ha 7) n z := mp_app_i (by decide)
  have e8 : mp_app ha n x y z u 8 = upd (ha 8) n u := mp_app_i (by decide)
  have e0 : mp_app ha n x y z u 0 = ha 0 := mp_app_i (by decide)
  have e1 : mp_app ha n x y z u 1 = ha 1 := mp_app_i (by decide)
  have e2 : mp_app ha n x y z u 2 = ha 2 := mp_app_i (by decide)
  have e3 : mp_app ha n x y z u 3 = ha 3 := mp_app_i (by decide)
  have e4 : mp_app ha n x y z u 4 = ha 4 := mp_app_i (by decide)
  have e9 : mp_app ha n x y z u 9 = (if x = 101 then mp_close (upd (ha 5) n x) (upd (ha 9) n (-1)) n else upd (ha 9) n (-1)) := by
    rw [mp_app]
    split
    · rfl
    · rfl
  rw [sx_H, mm_H, e0, e1, e2, e3, e4, e5, e6, e7, e8, e9]
  refine ⟨⟨rfl, by omega, fun i hi => ?_, h4, h5, h6, mw_P_app hn h7, h8⟩, rfl, fun i hi => ⟨lw_upd (fun i hi => (g2 i hi).1) i hi, lw_upd (fun i hi => (g2 i hi).2.1) i hi, lw_upd (fun i hi => (g2 i hi).2.2.1) i hi, lw_upd (fun i hi => (g2 i hi).2.2.2) i hi⟩, g3, g4, g5⟩
  by_cases e : i = n
  · rw [e, show upd (ha 5) n x n = x from pk_us, show upd (ha 6) n y n = y from pk_us, show upd (ha 7) n z n = z from pk_us, show upd (ha 8) n u n = u from pk_us]
    exact ⟨hx, hy, hz9, hu⟩
  · rw [show upd (ha 5) n x i = ha 5 i from pk_un e, show upd (ha 6) n y i = ha 6 i from pk_un e, show upd (ha 7) n z i = ha 7 i from pk_un e, show upd (ha 8) n u i = ha 8 i from pk_un e]
    exact h3 i (by omega)
theorem lw_fix {ha : Nat → Nat → Int32} {hz : Int32} {T : Nat → Bool} {M c : Nat} {v : Bool} {r : Nat → Int32} {ma : Nat → Nat → Int32} {ms : Nat → Int32} (hr : ∀ j, j < 72 → r j = mr_w (fun q => cond (decide (16 * j + q = c)) v (T (16 * j + q)))) (hH : sx_H ha hz T M) (hh : mm_H ha T M ma ms) : sx_H (am_u2 ha 3 r) hz (fun q => cond (decide (q = c)) v (T q)) M ∧ mm_H (am_u2 ha 3 r) (fun q => cond (decide (q = c)) v (T q)) M (am_u2 ma 13 (upd (ma 13) c (am_b v))) (am_u1 ms 15 0) := by
  obtain ⟨h1, h2, h3, h4, h5, h6, h7, h8⟩ := hH
  obtain ⟨g1, g2, g3, g4, g5⟩ := hh
  refine ⟨⟨h1, h2, h3, h4, h5, h6, h7, hr⟩, g1, g2, g3, g4, fun q hq => ?_⟩
  show upd (ma 13) c (am_b v) q = am_b (cond (decide (q = c)) v (T q))
  by_cases e : q = c
  · rw [e, decide_eq_true rfl]
    exact pk_us
  · rw [decide_eq_false e]
    exact (pk_un e).trans (g5 q hq)
set_option maxHeartbeats 4000000 in
theorem xw_477 {P : am_P} (hm : am_mono P) {L : Nat} {xs : Nat → Int32} (hP : xm_HP (some (L, xs)) 15 27 xl_K P) {ha : Nat → Nat → Int32} {hz : Int32} {a1 : Nat → Nat → Int32} {s1 : Nat → Int32} {t1 : UInt32} {a2 : Nat → Nat → Int32} {s2 : Nat → Int32} {t2 : UInt32} {al : Int32} {ma : Nat → Nat → Int32} {ms : Nat → Int32} {mt : UInt32} {ol : Nat → Int64} {od : Nat → UInt64} {g : Nat} (hg : 6 * g + 6 ≤ L) (hL : L ≤ 3072) (hI : lw_I g ha hz a1 s1 t1 al ma ms mt) {bc bs : Nat} (hbc : 512 - g ≤ bc) (hbs : 6 * (512 - g) ≤ bs) (hn : ∀ (ha : Nat → Nat → Int32) (hz : Int32) (a1 : Nat → Nat → Int32) (s1 : Nat → Int32) (t1 : UInt32) (a2 : Nat → Nat → Int32) (s2 : Nat → Int32) (t2 : UInt32) (al : Int32) (ma : Nat → Nat → Int32) (ms : Nat → Int32) (mt : UInt32) (ol : Nat → Int64) (od : Nat → UInt64), lw_I (g + 1) ha hz a1 s1 t1 al ma ms mt → ∀ bc bs : Nat, 511 - g ≤ bc → 6 * (511 - g) ≤ bs → P 28 [some (.ref 1500), some (.ref 0), some (.ref 39), some (.ref 55), some (.ref 56), some (.int (nI (6 * (g + 1)))), none, none, none, none] [] (am_W ha hz a1 s1 t1 a2 s2 t2 al ma ms mt ol od) bc bs) : P 477 [some (.ref 1500), some (.ref 0), some (.ref 39), some (.ref 55), some (.ref 56), some (.int (nI (6 * g))), none, none, none, none] [] (am_W ha hz a1 s1 t1 a2 s2 t2 al ma ms mt ol od) bc bs := by
  obtain ⟨T, M, D, S, hH, hh, hr, hWD, hS, hE, hD, hV, e8, e9, e10, et, eu, ev, ep, hB⟩ := lw_both hI
  obtain ⟨-, -, -, -, -, -, -, -, -, -, -, hal, hnar, -⟩ := id hI
  refine x_aload_n hP u27_477 rfl ?_
  refine x_aload_n hP u27_478 rfl ?_
  refine x_iload hP u27_479 rfl ?_
  refine x_iconst (v := 1) hP u27_481 (by decide) ?_
  refine x_iadd hP u27_482 ?_
  rw [show nI (6 * g) + 1 = nI (6 * g + 1) from nI_add (6 * g) 1]
  refine x_sld hP u27_483 (vp_in_nI (by omega) (by omega)) ?_
  rw [nI_clamp (by omega)]
  refine x_i2c hP u27_484 ?_
  refine x_aload_n hP u27_485 rfl ?_
  refine x_iload hP u27_486 rfl ?_
  refine x_iconst (v := 2) hP u27_488 (by decide) ?_
  refine x_iadd hP u27_489 ?_
  rw [show nI (6 * g) + 2 = nI (6 * g + 2) from nI_add (6 * g) 2]
  refine x_sld hP u27_490 (vp_in_nI (by omega) (by omega)) ?_
  rw [nI_clamp (by omega)]
  refine x_aload_n hP u27_491 rfl ?_
  refine x_iload hP u27_492 rfl ?_
  refine x_iconst (v := 3) hP u27_494 (by decide) ?_
  refine x_iadd hP u27_495 ?_
  rw [show nI (6 * g) + 3 = nI (6 * g + 3) from nI_add (6 * g) 3]
  refine x_sld hP u27_496 (vp_in_nI (by omega) (by omega)) ?_
  rw [nI_clamp (by omega)]
  refine x_aload_n hP u27_497 rfl ?_
  refine x_iload hP u27_498 rfl ?_
  refine x_iconst (v := 4) hP u27_500 (by decide) ?_
  refine x_iadd hP u27_501 ?_
  rw [show nI (6 * g) + 4 = nI (6 * g + 4) from nI_add (6 * g) 4]
  refine x_sld hP u27_502 (vp_in_nI (by omega) (by omega)) ?_
  rw [nI_clamp (by omega)]
  refine x_aload_n hP u27_503 rfl ?_
  refine x_callS (bc' := bc - 1) (bs' := bs - 6) hP u27_504 rfl rfl (by show bc = bc - 1 + 1; omega) (by show bs = bs - 6 + 6; omega) ?_
  refine xh17 hH.1 hH.2.1 (x := ((xs (6 * g + 1)).toUInt32 % 65536).toInt32) (y := xs (6 * g + 2)) (z := xs (6 * g + 3)) (u9 := xs (6 * g + 4)) ?_ ?_ ?_
  · intro hM64 h1 h2 h3 h4 g9 u v hg9 hu hv
    refine x_istore_6 hP u27_507 (by exact rfl) ?_
    refine x_aload_n hP u27_509 rfl ?_
    refine x_aload_n hP u27_510 rfl ?_
    refine x_iload hP u27_511 rfl ?_
    refine x_iconst (v := 1) hP u27_513 (by decide) ?_
    refine x_iadd hP u27_514 ?_
    rw [show nI (6 * g) + 1 = nI (6 * g + 1) from nI_add (6 * g) 1]
    refine x_sld hP u27_515 (vp_in_nI (by omega) (by omega)) ?_
    rw [nI_clamp (by omega)]
    refine x_i2c hP u27_516 ?_
    refine x_aload_n hP u27_517 rfl ?_
    refine x_iload hP u27_518 rfl ?_
    refine x_iconst (v := 2) hP u27_520 (by decide) ?_
    refine x_iadd hP u27_521 ?_
    rw [show nI (6 * g) + 2 = nI (6 * g + 2) from nI_add (6 * g) 2]
    refine x_sld hP u27_522 (vp_in_nI (by omega) (by omega)) ?_
    rw [nI_clamp (by omega)]
    refine x_aload_n hP u27_523 rfl ?_
    refine x_iload hP u27_524 rfl ?_
    refine x_iconst (v := 3) hP u27_526 (by decide) ?_
    refine x_iadd hP u27_527 ?_
    rw [show nI (6 * g) + 3 = nI (6 * g + 3) from nI_add (6 * g) 3]
    refine x_sld hP u27_528 (vp_in_nI (by omega) (by omega)) ?_
    rw [nI_clamp (by omega)]
    refine x_aload_n hP u27_529 rfl ?_
    refine x_iload hP u27_530 rfl ?_
    refine x_iconst (v := 4) hP u27_532 (by decide) ?_
    refine x_iadd hP u27_533 ?_
    rw [show nI (6 * g) + 4 = nI (6 * g + 4) from nI_add (6 * g) 4]
    refine x_sld hP u27_534 (vp_in_nI (by omega) (by omega)) ?_
    rw [nI_clamp (by omega)]
    refine x_invokevirtual (bc' := bc - 1) (bs' := bs - 6) hP u27_535 rfl rfl rfl rfl rfl ?_
    have hlw := lw_app hM64 h1 h2 h3 h4 hH hh
    refine sp109 hh.1 hH.2.1 (x := ((xs (6 * g + 1)).toUInt32 % 65536).toInt32) (y := xs (6 * g + 2)) (z := xs (6 * g + 3)) (w := xs (6 * g + 4)) (fun _ _ _ _ _ g2 u2 v2 hg2 hu2 hv2 => ?_) (fun h => ?_) (fun h => absurd h (by omega))
    rotate_left
    · rw [h1, h2, h3, h4] at h
      cases h
    refine x_istore_7 hP u27_538 (by exact rfl) ?_
    refine x_aload_n hP u27_540 rfl ?_
    refine x_invokevirtual (bc' := bc - 1) (bs' := bs - 6) hP u27_541 rfl rfl rfl rfl rfl ?_
    refine sp96 ?_
    refine x_iload hP u27_544 rfl ?_
    refine x_icmp_eq hP u27_546 (fun q546 => ?_) (fun q546 => ?_)
    · refine x_iload hP u27_551 rfl ?_
      refine x_if_ne hP u27_553 (fun q553 => ?_) (fun q553 => ?_)
      · exact absurd rfl q553
      · refine x_aload_n hP u27_556 rfl ?_
        refine x_iconst (v := 0) hP u27_557 (by decide) ?_
        refine x_laload hP u27_558 rfl (vp_in_nI (n := 0) (by decide) (by decide)) ?_
        refine x_iload hP u27_559 rfl ?_
        refine x_i2l hP u27_561 ?_
        refine x_lcmp hP u27_562 ?_
        refine x_if_eq hP u27_563 (fun q563 => ?_) (fun q563 => ?_)
        · refine x_goto hP u27_568 ?_
          refine x_iinc_5 (v := 6) hP u27_1388 (by decide) (by exact rfl) ?_
          refine x_goto hP u27_1391 ?_
          rw [show nI (6 * g) + 6 = nI (6 * (g + 1)) from nI_add (6 * g) 6]
          refine hm _ _ _ _ _ _ _ (by repeat (first | exact am_le_nil | apply am_le_cons | apply am_le_none)) (hn _ _ _ _ _ _ _ _ _ _ _ _ _ _ (lw_begin hlw.1 hlw.2 hg9 hu hv hg2 hu2 hv2) _ _ (by omega) (by omega))
        · exact absurd (lw_cmp rfl) q563
    · exact absurd rfl q546
  · intro hk
    refine x_istore_6 hP u27_507 (by exact rfl) ?_
    refine x_aload_n hP u27_509 rfl ?_
    refine x_aload_n hP u27_510 rfl ?_
    refine x_iload hP u27_511 rfl ?_
    refine x_iconst (v := 1) hP u27_513 (by decide) ?_
    refine x_iadd hP u27_514 ?_
    rw [show nI (6 * g) + 1 = nI (6 * g + 1) from nI_add (6 * g) 1]
    refine x_sld hP u27_515 (vp_in_nI (by omega) (by omega)) ?_
    rw [nI_clamp (by omega)]
    refine x_i2c hP u27_516 ?_
    refine x_aload_n hP u27_517 rfl ?_
    refine x_iload hP u27_518 rfl ?_
    refine x_iconst (v := 2) hP u27_520 (by decide) ?_
    refine x_iadd hP u27_521 ?_
    rw [show nI (6 * g) + 2 = nI (6 * g + 2) from nI_add (6 * g) 2]
    refine x_sld hP u27_522 (vp_in_nI (by omega) (by omega)) ?_
    rw [nI_clamp (by omega)]
    refine x_aload_n hP u27_523 rfl ?_
    refine x_iload hP u27_524 rfl ?_
    refine x_iconst (v := 3) hP u27_526 (by decide) ?_
    refine x_iadd hP u27_527 ?_
    rw [show nI (6 * g) + 3 = nI (6 * g + 3) from nI_add (6 * g) 3]
    refine x_sld hP u27_528 (vp_in_nI (by omega) (by omega)) ?_
    rw [nI_clamp (by omega)]
    refine x_aload_n hP u27_529 rfl ?_
    refine x_iload hP u27_530 rfl ?_
    refine x_iconst (v := 4) hP u27_532 (by decide) ?_
    refine x_iadd hP u27_533 ?_
    rw [show nI (6 * g) + 4 = nI (6 * g + 4) from nI_add (6 * g) 4]
    refine x_sld hP u27_534 (vp_in_nI (by omega) (by omega)) ?_
    rw [nI_clamp (by omega)]
    refine x_invokevirtual (bc' := bc - 1) (bs' := bs - 6) hP u27_535 rfl rfl rfl rfl rfl ?_
    refine sp109 hh.1 hH.2.1 (x := ((xs (6 * g + 1)).toUInt32 % 65536).toInt32) (y := xs (6 * g + 2)) (z := xs (6 * g + 3)) (w := xs (6 * g + 4)) (fun _ h1 h2 h3 h4 g2 u2 v2 hg2 hu2 hv2 => ?_) (fun _ => ?_) (fun _ h1 h2 h3 h4 => ?_)
    · rw [h1, h2, h3, h4] at hk
      cases hk
    rotate_left
    · rw [h1, h2, h3, h4] at hk
      cases hk
    refine x_istore_7 hP u27_538 (by exact rfl) ?_
    refine x_aload_n hP u27_540 rfl ?_
    refine x_invokevirtual (bc' := bc - 1) (bs' := bs - 6) hP u27_541 rfl rfl rfl rfl rfl ?_
    refine sp96 ?_
    refine x_iload hP u27_544 rfl ?_
    refine x_icmp_eq hP u27_546 (fun q546 => ?_) (fun q546 => ?_)
    · refine x_iload hP u27_551 rfl ?_
      refine x_if_ne hP u27_553 (fun q553 => ?_) (fun q553 => ?_)
      · refine x_goto hP u27_568 ?_
        refine x_iinc_5 (v := 6) hP u27_1388 (by decide) (by exact rfl) ?_
        refine x_goto hP u27_1391 ?_
        rw [show nI (6 * g) + 6 = nI (6 * (g + 1)) from nI_add (6 * g) 6]
        refine hm _ _ _ _ _ _ _ (by repeat (first | exact am_le_nil | apply am_le_cons | apply am_le_none)) (hn _ _ _ _ _ _ _ _ _ _ _ _ _ _ (lw_I_15 hI) _ _ (by omega) (by omega))
      · exact absurd q553 (by decide)
    · exact absurd rfl q546
  · intro hM64 h1 h2 h3 h4
    refine x_istore_6 hP u27_507 (by exact rfl) ?_
    refine x_aload_n hP u27_509 rfl ?_
    refine x_aload_n hP u27_510 rfl ?_
    refine x_iload hP u27_511 rfl ?_
    refine x_iconst (v := 1) hP u27_513 (by decide) ?_
    refine x_iadd hP u27_514 ?_
    rw [show nI (6 * g) + 1 = nI (6 * g + 1) from nI_add (6 * g) 1]
    refine x_sld hP u27_515 (vp_in_nI (by omega) (by omega)) ?_
    rw [nI_clamp (by omega)]
    refine x_i2c hP u27_516 ?_
    refine x_aload_n hP u27_517 rfl ?_
    refine x_iload hP u27_518 rfl ?_
    refine x_iconst (v := 2) hP u27_520 (by decide) ?_
    refine x_iadd hP u27_521 ?_
    rw [show nI (6 * g) + 2 = nI (6 * g + 2) from nI_add (6 * g) 2]
    refine x_sld hP u27_522 (vp_in_nI (by omega) (by omega)) ?_
    rw [nI_clamp (by omega)]
    refine x_aload_n hP u27_523 rfl ?_
    refine x_iload hP u27_524 rfl ?_
    refine x_iconst (v := 3) hP u27_526 (by decide) ?_
    refine x_iadd hP u27_527 ?_
    rw [show nI (6 * g) + 3 = nI (6 * g + 3) from nI_add (6 * g) 3]
    refine x_sld hP u27_528 (vp_in_nI (by omega) (by omega)) ?_
    rw [nI_clamp (by omega)]
    refine x_aload_n hP u27_529 rfl ?_
    refine x_iload hP u27_530 rfl ?_
    refine x_iconst (v := 4) hP u27_532 (by decide) ?_
    refine x_iadd hP u27_533 ?_
    rw [show nI (6 * g) + 4 = nI (6 * g + 4) from nI_add (6 * g) 4]
    refine x_sld hP u27_534 (vp_in_nI (by omega) (by omega)) ?_
    rw [nI_clamp (by omega)]
    refine x_invokevirtual (bc' := bc - 1) (bs' := bs - 6) hP u27_535 rfl rfl rfl rfl rfl ?_
    refine sp109 hh.1 hH.2.1 (x := ((xs (6 * g + 1)).toUInt32 % 65536).toInt32) (y := xs (6 * g + 2)) (z := xs (6 * g + 3)) (w := xs (6 * g + 4)) (fun h => absurd h (by omega)) (fun h => ?_) (fun _ _ _ _ _ => ?_)
    · rw [h1, h2, h3, h4] at h
      cases h
    refine x_istore_7 hP u27_538 (by exact rfl) ?_
    refine x_aload_n hP u27_540 rfl ?_
    refine x_invokevirtual (bc' := bc - 1) (bs' := bs - 6) hP u27_541 rfl rfl rfl rfl rfl ?_
    refine sp96 ?_
    refine x_iload hP u27_544 rfl ?_
    refine x_icmp_eq hP u27_546 (fun q546 => ?_) (fun q546 => ?_)
    · refine x_iload hP u27_551 rfl ?_
      refine x_if_ne hP u27_553 (fun q553 => ?_) (fun q553 => ?_)
      · refine x_goto hP u27_568 ?_
        refine x_iinc_5 (v := 6) hP u27_1388 (by decide) (by exact rfl) ?_
        refine x_goto hP u27_1391 ?_
        rw [show nI (6 * g) + 6 = nI (6 * (g + 1)) from nI_add (6 * g) 6]
        refine hm _ _ _ _ _ _ _ (by repeat (first | exact am_le_nil | apply am_le_cons | apply am_le_none)) (hn _ _ _ _ _ _ _ _ _ _ _ _ _ _ (lw_I_15 hI) _ _ (by omega) (by omega))
      · exact absurd q553 (by decide)
    · exact absurd rfl q546
set_option maxHeartbeats 4000000 in
theorem xw_270 {P : am_P} (hm : am_mono P) {L : Nat} {xs : Nat → Int32} (hP : xm_HP (some (L, xs)) 15 27 xl_K P) {ha : Nat → Nat → Int32} {hz : Int32} {a1 : Nat → Nat → Int32} {s1 : Nat → Int32} {t1 : UInt32} {a2 : Nat → Nat → Int32} {s2 : Nat → Int32} {t2 : UInt32} {al : Int32} {ma : Nat → Nat → Int32} {ms : Nat → Int32} {mt : UInt32} {ol : Nat → Int64} {od : Nat → UInt64} {g : Nat} (hg : 6 * g + 6 ≤ L) (hL : L ≤ 3072) (hI : lw_I g ha hz a1 s1 t1 al ma ms mt) {bc bs : Nat} (hbc : 512 - g ≤ bc) (hbs : 6 * (512 - g) ≤ bs) (hn : ∀ (ha : Nat → Nat → Int32) (hz : Int32) (a1 : Nat → Nat → Int32) (s1 : Nat → Int32) (t1 : UInt32) (a2 : Nat → Nat → Int32) (s2 : Nat → Int32) (t2 : UInt32) (al : Int32) (ma : Nat → Nat → Int32) (ms : Nat → Int32) (mt : UInt32) (ol : Nat → Int64) (od : Nat → UInt64), lw_I (g + 1) ha hz a1 s1 t1 al ma ms mt → ∀ bc bs : Nat, 511 - g ≤ bc → 6 * (511 - g) ≤ bs → P 28 [some (.ref 1500), some (.ref 0), some (.ref 39), some (.ref 55), some (.ref 56), some (.int (nI (6 * (g + 1)))), none, none, none, none] [] (am_W ha hz a1 s1 t1 a2 s2 t2 al ma ms mt ol od) bc bs) : P 270 [some (.ref 1500), some (.ref 0), some (.ref 39), some (.ref 55), some (.ref 56), some (.int (nI (6 * g))), none, none, none, none] [] (am_W ha hz a1 s1 t1 a2 s2 t2 al ma ms mt ol od) bc bs := by
  obtain ⟨T, M, D, S, hH, hh, hr, hWD, hS, hE, hD, hV, e8, e9, e10, et, eu, ev, ep, hB⟩ := lw_both hI
  obtain ⟨-, -, -, -, -, -, -, -, -, -, -, hal, hnar, -⟩ := id hI
  refine x_aload_n hP u27_270 rfl ?_
  refine x_aload_n hP u27_271 rfl ?_
  refine x_iload hP u27_272 rfl ?_
  refine x_iconst (v := 1) hP u27_274 (by decide) ?_
  refine x_iadd hP u27_275 ?_
  rw [show nI (6 * g) + 1 = nI (6 * g + 1) from nI_add (6 * g) 1]
  refine x_sld hP u27_276 (vp_in_nI (by omega) (by omega)) ?_
  rw [nI_clamp (by omega)]
  refine x_aload_n hP u27_277 rfl ?_
  refine x_iload hP u27_278 rfl ?_
  refine x_iconst (v := 2) hP u27_280 (by decide) ?_
  refine x_iadd hP u27_281 ?_
  rw [show nI (6 * g) + 2 = nI (6 * g + 2) from nI_add (6 * g) 2]
  refine x_sld hP u27_282 (vp_in_nI (by omega) (by omega)) ?_
  rw [nI_clamp (by omega)]
  refine x_aload_n hP u27_283 rfl ?_
  refine x_iload hP u27_284 rfl ?_
  refine x_iconst (v := 3) hP u27_286 (by decide) ?_
  refine x_iadd hP u27_287 ?_
  rw [show nI (6 * g) + 3 = nI (6 * g + 3) from nI_add (6 * g) 3]
  refine x_sld hP u27_288 (vp_in_nI (by omega) (by omega)) ?_
  rw [nI_clamp (by omega)]
  refine x_aload_n hP u27_289 rfl ?_
  refine x_iload hP u27_290 rfl ?_
  refine x_iconst (v := 4) hP u27_292 (by decide) ?_
  refine x_iadd hP u27_293 ?_
  rw [show nI (6 * g) + 4 = nI (6 * g + 4) from nI_add (6 * g) 4]
  refine x_sld hP u27_294 (vp_in_nI (by omega) (by omega)) ?_
  rw [nI_clamp (by omega)]
  refine x_if_eq hP u27_295 (fun q295 => ?_) (fun q295 => ?_)
  · refine x_iconst (v := 0) hP u27_302 (by decide) ?_
    refine x_aload_n hP u27_303 rfl ?_
    refine x_callS (bc' := bc - 1) (bs' := bs - 6) hP u27_304 rfl rfl (by show bc = bc - 1 + 1; omega) (by show bs = bs - 6 + 6; omega) ?_
    refine xh15 hH.2.2.2.2.2.2.2 (x := xs (6 * g + 1)) (y := xs (6 * g + 2)) (z := xs (6 * g + 3)) (v := false) ?_ ?_
    · intro X Y Z hX hY hZ hx hy hzz r hr9 g9 u w9 hg9 hu hv
      refine x_istore_6 hP u27_307 (by exact rfl) ?_
      refine x_aload_n hP u27_309 rfl ?_
      refine x_aload_n hP u27_310 rfl ?_
      refine x_iload hP u27_311 rfl ?_
      refine x_iconst (v := 1) hP u27_313 (by decide) ?_
      refine x_iadd hP u27_314 ?_
      rw [show nI (6 * g) + 1 = nI (6 * g + 1) from nI_add (6 * g) 1]
      refine x_sld hP u27_315 (vp_in_nI (by omega) (by omega)) ?_
      rw [nI_clamp (by omega)]
      refine x_aload_n hP u27_316 rfl ?_
      refine x_iload hP u27_317 rfl ?_
      refine x_iconst (v := 2) hP u27_319 (by decide) ?_
      refine x_iadd hP u27_320 ?_
      rw [show nI (6 * g) + 2 = nI (6 * g + 2) from nI_add (6 * g) 2]
      refine x_sld hP u27_321 (vp_in_nI (by omega) (by omega)) ?_
      rw [nI_clamp (by omega)]
      refine x_aload_n hP u27_322 rfl ?_
      refine x_iload hP u27_323 rfl ?_
      refine x_iconst (v := 3) hP u27_325 (by decide) ?_
      refine x_iadd hP u27_326 ?_
      rw [show nI (6 * g) + 3 = nI (6 * g + 3) from nI_add (6 * g) 3]
      refine x_sld hP u27_327 (vp_in_nI (by omega) (by omega)) ?_
      rw [nI_clamp (by omega)]
      refine x_aload_n hP u27_328 rfl ?_
      refine x_iload hP u27_329 rfl ?_
      refine x_iconst (v := 4) hP u27_331 (by decide) ?_
      refine x_iadd hP u27_332 ?_
      rw [show nI (6 * g) + 4 = nI (6 * g + 4) from nI_add (6 * g) 4]
      refine x_sld hP u27_333 (vp_in_nI (by omega) (by omega)) ?_
      rw [nI_clamp (by omega)]
      refine x_if_eq hP u27_334 (fun q334 => ?_) (fun q334 => ?_)
      · refine x_iconst (v := 0) hP u27_341 (by decide) ?_
        refine x_invokevirtual (bc' := bc - 1) (bs' := bs - 6) hP u27_342 rfl rfl rfl rfl rfl ?_
        have hlw := lw_fix (c := X + 16 * Y + 192 * Z) (v := false) hr9 hH hh
        refine sp105 (T := T) hh.2.2.2.2 (x := xs (6 * g + 1)) (y := xs (6 * g + 2)) (z := xs (6 * g + 3)) (b := false) (fun X9 Y9 Z9 hX9 hY9 hZ9 hx9 hy9 hz9 g2 u2 v2 hg2 hu2 hv2 => ?_) (fun h => absurd ((show mi_cell (xs (6 * g + 1)) (xs (6 * g + 2)) (xs (6 * g + 3)) = true by rw [hx, hy, hzz]; exact lw_cell hX hY hZ).symm.trans h) (by decide))
        obtain rfl : X = X9 := (nI_inj (by omega) (by omega)).mp (hx.symm.trans hx9)
        obtain rfl : Y = Y9 := (nI_inj (by omega) (by omega)).mp (hy.symm.trans hy9)
        obtain rfl : Z = Z9 := (nI_inj (by omega) (by omega)).mp (hzz.symm.trans hz9)
        refine x_istore_7 hP u27_345 (by exact rfl) ?_
        refine x_aload_n hP u27_347 rfl ?_
        refine x_invokevirtual (bc' := bc - 1) (bs' := bs - 6) hP u27_348 rfl rfl rfl rfl rfl ?_
        refine sp96 ?_
        refine x_iload hP u27_351 rfl ?_
        refine x_icmp_eq hP u27_353 (fun q353 => ?_) (fun q353 => ?_)
        · refine x_iload hP u27_358 rfl ?_
          refine x_if_ne hP u27_360 (fun q360 => ?_) (fun q360 => ?_)
          · exact absurd rfl q360
          · refine x_aload_n hP u27_363 rfl ?_
            refine x_iconst (v := 0) hP u27_364 (by decide) ?_
            refine x_laload hP u27_365 rfl (vp_in_nI (n := 0) (by decide) (by decide)) ?_
            refine x_iload hP u27_366 rfl ?_
            refine x_zeq hP u27_368 (fun q368 => ?_) (fun q368 => ?_)
            · refine x_lconst (v := 0) hP u27_375 (by decide) ?_
              refine x_lcmp hP u27_376 ?_
              refine x_if_eq hP u27_377 (fun q377 => ?_) (fun q377 => ?_)
              · refine x_goto hP u27_382 ?_
                refine x_iinc_5 (v := 6) hP u27_1388 (by decide) (by exact rfl) ?_
                refine x_goto hP u27_1391 ?_
                rw [show nI (6 * g) + 6 = nI (6 * (g + 1)) from nI_add (6 * g) 6]
                refine hm _ _ _ _ _ _ _ (by repeat (first | exact am_le_nil | apply am_le_cons | apply am_le_none)) (hn _ _ _ _ _ _ _ _ _ _ _ _ _ _ (lw_begin hlw.1 hlw.2 hg9 hu hv hg2 hu2 hv2) _ _ (by omega) (by omega))
              · exact absurd (lw_cmp (by
                  show cond (T (X + 16 * Y + 192 * Z)) (1 : Int64) 0 = 0
                  rw [q368]
                  rfl)) q377
            · refine x_lconst (v := 1) hP u27_371 (by decide) ?_
              refine x_goto hP u27_372 ?_
              refine x_lcmp hP u27_376 ?_
              refine x_if_eq hP u27_377 (fun q377 => ?_) (fun q377 => ?_)
              · refine x_goto hP u27_382 ?_
                refine x_iinc_5 (v := 6) hP u27_1388 (by decide) (by exact rfl) ?_
                refine x_goto hP u27_1391 ?_
                rw [show nI (6 * g) + 6 = nI (6 * (g + 1)) from nI_add (6 * g) 6]
                refine hm _ _ _ _ _ _ _ (by repeat (first | exact am_le_nil | apply am_le_cons | apply am_le_none)) (hn _ _ _ _ _ _ _ _ _ _ _ _ _ _ (lw_begin hlw.1 hlw.2 hg9 hu hv hg2 hu2 hv2) _ _ (by omega) (by omega))
              · exact absurd (lw_cmp (by
                  show cond (T (X + 16 * Y + 192 * Z)) (1 : Int64) 0 = 1
                  rw [q368]
                  rfl)) q377
        · exact absurd rfl q353
      · exact absurd q295 q334
    · intro hk
      refine x_istore_6 hP u27_307 (by exact rfl) ?_
      refine x_aload_n hP u27_309 rfl ?_
      refine x_aload_n hP u27_310 rfl ?_
      refine x_iload hP u27_311 rfl ?_
      refine x_iconst (v := 1) hP u27_313 (by decide) ?_
      refine x_iadd hP u27_314 ?_
      rw [show nI (6 * g) + 1 = nI (6 * g + 1) from nI_add (6 * g) 1]
      refine x_sld hP u27_315 (vp_in_nI (by omega) (by omega)) ?_
      rw [nI_clamp (by omega)]
      refine x_aload_n hP u27_316 rfl ?_
      refine x_iload hP u27_317 rfl ?_
      refine x_iconst (v := 2) hP u27_319 (by decide) ?_
      refine x_iadd hP u27_320 ?_
      rw [show nI (6 * g) + 2 = nI (6 * g + 2) from nI_add (6 * g) 2]
      refine x_sld hP u27_321 (vp_in_nI (by omega) (by omega)) ?_
      rw [nI_clamp (by omega)]
      refine x_aload_n hP u27_322 rfl ?_
      refine x_iload hP u27_323 rfl ?_
      refine x_iconst (v := 3) hP u27_325 (by decide) ?_
      refine x_iadd hP u27_326 ?_
      rw [show nI (6 * g) + 3 = nI (6 * g + 3) from nI_add (6 * g) 3]
      refine x_sld hP u27_327 (vp_in_nI (by omega) (by omega)) ?_
      rw [nI_clamp (by omega)]
      refine x_aload_n hP u27_328 rfl ?_
      refine x_iload hP u27_329 rfl ?_
      refine x_iconst (v := 4) hP u27_331 (by decide) ?_
      refine x_iadd hP u27_332 ?_
      rw [show nI (6 * g) + 4 = nI (6 * g + 4) from nI_add (6 * g) 4]
      refine x_sld hP u27_333 (vp_in_nI (by omega) (by omega)) ?_
      rw [nI_clamp (by omega)]
      refine x_if_eq hP u27_334 (fun q334 => ?_) (fun q334 => ?_)
      · refine x_iconst (v := 0) hP u27_341 (by decide) ?_
        refine x_invokevirtual (bc' := bc - 1) (bs' := bs - 6) hP u27_342 rfl rfl rfl rfl rfl ?_
        refine sp105 (T := T) hh.2.2.2.2 (x := xs (6 * g + 1)) (y := xs (6 * g + 2)) (z := xs (6 * g + 3)) (b := false) (fun X9 Y9 Z9 hX9 hY9 hZ9 hx9 hy9 hz9 g2 u2 v2 hg2 hu2 hv2 => absurd ((show mi_cell (xs (6 * g + 1)) (xs (6 * g + 2)) (xs (6 * g + 3)) = true by rw [hx9, hy9, hz9]; exact lw_cell hX9 hY9 hZ9).symm.trans hk) (by decide)) (fun _ => ?_)
        refine x_istore_7 hP u27_345 (by exact rfl) ?_
        refine x_aload_n hP u27_347 rfl ?_
        refine x_invokevirtual (bc' := bc - 1) (bs' := bs - 6) hP u27_348 rfl rfl rfl rfl rfl ?_
        refine sp96 ?_
        refine x_iload hP u27_351 rfl ?_
        refine x_icmp_eq hP u27_353 (fun q353 => ?_) (fun q353 => ?_)
        · refine x_iload hP u27_358 rfl ?_
          refine x_if_ne hP u27_360 (fun q360 => ?_) (fun q360 => ?_)
          · refine x_goto hP u27_382 ?_
            refine x_iinc_5 (v := 6) hP u27_1388 (by decide) (by exact rfl) ?_
            refine x_goto hP u27_1391 ?_
            rw [show nI (6 * g) + 6 = nI (6 * (g + 1)) from nI_add (6 * g) 6]
            refine hm _ _ _ _ _ _ _ (by repeat (first | exact am_le_nil | apply am_le_cons | apply am_le_none)) (hn _ _ _ _ _ _ _ _ _ _ _ _ _ _ (lw_I_15 hI) _ _ (by omega) (by omega))
          · exact absurd q360 (by decide)
        · exact absurd rfl q353
      · exact absurd q295 q334
  · refine x_iconst (v := 1) hP u27_298 (by decide) ?_
    refine x_goto hP u27_299 ?_
    refine x_aload_n hP u27_303 rfl ?_
    refine x_callS (bc' := bc - 1) (bs' := bs - 6) hP u27_304 rfl rfl (by show bc = bc - 1 + 1; omega) (by show bs = bs - 6 + 6; omega) ?_
    refine xh15 hH.2.2.2.2.2.2.2 (x := xs (6 * g + 1)) (y := xs (6 * g + 2)) (z := xs (6 * g + 3)) (v := true) ?_ ?_
    · intro X Y Z hX hY hZ hx hy hzz r hr9 g9 u w9 hg9 hu hv
      refine x_istore_6 hP u27_307 (by exact rfl) ?_
      refine x_aload_n hP u27_309 rfl ?_
      refine x_aload_n hP u27_310 rfl ?_
      refine x_iload hP u27_311 rfl ?_
      refine x_iconst (v := 1) hP u27_313 (by decide) ?_
      refine x_iadd hP u27_314 ?_
      rw [show nI (6 * g) + 1 = nI (6 * g + 1) from nI_add (6 * g) 1]
      refine x_sld hP u27_315 (vp_in_nI (by omega) (by omega)) ?_
      rw [nI_clamp (by omega)]
      refine x_aload_n hP u27_316 rfl ?_
      refine x_iload hP u27_317 rfl ?_
      refine x_iconst (v := 2) hP u27_319 (by decide) ?_
      refine x_iadd hP u27_320 ?_
      rw [show nI (6 * g) + 2 = nI (6 * g + 2) from nI_add (6 * g) 2]
      refine x_sld hP u27_321 (vp_in_nI (by omega) (by omega)) ?_
      rw [nI_clamp (by omega)]
      refine x_aload_n hP u27_322 rfl ?_
      refine x_iload hP u27_323 rfl ?_
      refine x_iconst (v := 3) hP u27_325 (by decide) ?_
      refine x_iadd hP u27_326 ?_
      rw [show nI (6 * g) + 3 = nI (6 * g + 3) from nI_add (6 * g) 3]
      refine x_sld hP u27_327 (vp_in_nI (by omega) (by omega)) ?_
      rw [nI_clamp (by omega)]
      refine x_aload_n hP u27_328 rfl ?_
      refine x_iload hP u27_329 rfl ?_
      refine x_iconst (v := 4) hP u27_331 (by decide) ?_
      refine x_iadd hP u27_332 ?_
      rw [show nI (6 * g) + 4 = nI (6 * g + 4) from nI_add (6 * g) 4]
      refine x_sld hP u27_333 (vp_in_nI (by omega) (by omega)) ?_
      rw [nI_clamp (by omega)]
      refine x_if_eq hP u27_334 (fun q334 => ?_) (fun q334 => ?_)
      · exact absurd q334 q295
      · refine x_iconst (v := 1) hP u27_337 (by decide) ?_
        refine x_goto hP u27_338 ?_
        refine x_invokevirtual (bc' := bc - 1) (bs' := bs - 6) hP u27_342 rfl rfl rfl rfl rfl ?_
        have hlw := lw_fix (c := X + 16 * Y + 192 * Z) (v := true) hr9 hH hh
        refine sp105 (T := T) hh.2.2.2.2 (x := xs (6 * g + 1)) (y := xs (6 * g + 2)) (z := xs (6 * g + 3)) (b := true) (fun X9 Y9 Z9 hX9 hY9 hZ9 hx9 hy9 hz9 g2 u2 v2 hg2 hu2 hv2 => ?_) (fun h => absurd ((show mi_cell (xs (6 * g + 1)) (xs (6 * g + 2)) (xs (6 * g + 3)) = true by rw [hx, hy, hzz]; exact lw_cell hX hY hZ).symm.trans h) (by decide))
        obtain rfl : X = X9 := (nI_inj (by omega) (by omega)).mp (hx.symm.trans hx9)
        obtain rfl : Y = Y9 := (nI_inj (by omega) (by omega)).mp (hy.symm.trans hy9)
        obtain rfl : Z = Z9 := (nI_inj (by omega) (by omega)).mp (hzz.symm.trans hz9)
        refine x_istore_7 hP u27_345 (by exact rfl) ?_
        refine x_aload_n hP u27_347 rfl ?_
        refine x_invokevirtual (bc' := bc - 1) (bs' := bs - 6) hP u27_348 rfl rfl rfl rfl rfl ?_
        refine sp96 ?_
        refine x_iload hP u27_351 rfl ?_
        refine x_icmp_eq hP u27_353 (fun q353 => ?_) (fun q353 => ?_)
        · refine x_iload hP u27_358 rfl ?_
          refine x_if_ne hP u27_360 (fun q360 => ?_) (fun q360 => ?_)
          · exact absurd rfl q360
          · refine x_aload_n hP u27_363 rfl ?_
            refine x_iconst (v := 0) hP u27_364 (by decide) ?_
            refine x_laload hP u27_365 rfl (vp_in_nI (n := 0) (by decide) (by decide)) ?_
            refine x_iload hP u27_366 rfl ?_
            refine x_zeq hP u27_368 (fun q368 => ?_) (fun q368 => ?_)
            · refine x_lconst (v := 0) hP u27_375 (by decide) ?_
              refine x_lcmp hP u27_376 ?_
              refine x_if_eq hP u27_377 (fun q377 => ?_) (fun q377 => ?_)
              · refine x_goto hP u27_382 ?_
                refine x_iinc_5 (v := 6) hP u27_1388 (by decide) (by exact rfl) ?_
                refine x_goto hP u27_1391 ?_
                rw [show nI (6 * g) + 6 = nI (6 * (g + 1)) from nI_add (6 * g) 6]
                refine hm _ _ _ _ _ _ _ (by repeat (first | exact am_le_nil | apply am_le_cons | apply am_le_none)) (hn _ _ _ _ _ _ _ _ _ _ _ _ _ _ (lw_begin hlw.1 hlw.2 hg9 hu hv hg2 hu2 hv2) _ _ (by omega) (by omega))
              · exact absurd (lw_cmp (by
                  show cond (T (X + 16 * Y + 192 * Z)) (1 : Int64) 0 = 0
                  rw [q368]
                  rfl)) q377
            · refine x_lconst (v := 1) hP u27_371 (by decide) ?_
              refine x_goto hP u27_372 ?_
              refine x_lcmp hP u27_376 ?_
              refine x_if_eq hP u27_377 (fun q377 => ?_) (fun q377 => ?_)
              · refine x_goto hP u27_382 ?_
                refine x_iinc_5 (v := 6) hP u27_1388 (by decide) (by exact rfl) ?_
                refine x_goto hP u27_1391 ?_
                rw [show nI (6 * g) + 6 = nI (6 * (g + 1)) from nI_add (6 * g) 6]
                refine hm _ _ _ _ _ _ _ (by repeat (first | exact am_le_nil | apply am_le_cons | apply am_le_none)) (hn _ _ _ _ _ _ _ _ _ _ _ _ _ _ (lw_begin hlw.1 hlw.2 hg9 hu hv hg2 hu2 hv2) _ _ (by omega) (by omega))
              · exact absurd (lw_cmp (by
                  show cond (T (X + 16 * Y + 192 * Z)) (1 : Int64) 0 = 1
                  rw [q368]
                  rfl)) q377
        · exact absurd rfl q353
    · intro hk
      refine x_istore_6 hP u27_307 (by exact rfl) ?_
      refine x_aload_n hP u27_309 rfl ?_
      refine x_aload_n hP u27_310 rfl ?_
      refine x_iload hP u27_311 rfl ?_
      refine x_iconst (v := 1) hP u27_313 (by decide) ?_
      refine x_iadd hP u27_314 ?_
      rw [show nI (6 * g) + 1 = nI (6 * g + 1) from nI_add (6 * g) 1]
      refine x_sld hP u27_315 (vp_in_nI (by omega) (by omega)) ?_
      rw [nI_clamp (by omega)]
      refine x_aload_n hP u27_316 rfl ?_
      refine x_iload hP u27_317 rfl ?_
      refine x_iconst (v := 2) hP u27_319 (by decide) ?_
      refine x_iadd hP u27_320 ?_
      rw [show nI (6 * g) + 2 = nI (6 * g + 2) from nI_add (6 * g) 2]
      refine x_sld hP u27_321 (vp_in_nI (by omega) (by omega)) ?_
      rw [nI_clamp (by omega)]
      refine x_aload_n hP u27_322 rfl ?_
      refine x_iload hP u27_323 rfl ?_
      refine x_iconst (v := 3) hP u27_325 (by decide) ?_
      refine x_iadd hP u27_326 ?_
      rw [show nI (6 * g) + 3 = nI (6 * g + 3) from nI_add (6 * g) 3]
      refine x_sld hP u27_327 (vp_in_nI (by omega) (by omega)) ?_
      rw [nI_clamp (by omega)]
      refine x_aload_n hP u27_328 rfl ?_
      refine x_iload hP u27_329 rfl ?_
      refine x_iconst (v := 4) hP u27_331 (by decide) ?_
      refine x_iadd hP u27_332 ?_
      rw [show nI (6 * g) + 4 = nI (6 * g + 4) from nI_add (6 * g) 4]
      refine x_sld hP u27_333 (vp_in_nI (by omega) (by omega)) ?_
      rw [nI_clamp (by omega)]
      refine x_if_eq hP u27_334 (fun q334 => ?_) (fun q334 => ?_)
      · exact absurd q334 q295
      · refine x_iconst (v := 1) hP u27_337 (by decide) ?_
        refine x_goto hP u27_338 ?_
        refine x_invokevirtual (bc' := bc - 1) (bs' := bs - 6) hP u27_342 rfl rfl rfl rfl rfl ?_
        refine sp105 (T := T) hh.2.2.2.2 (x := xs (6 * g + 1)) (y := xs (6 * g + 2)) (z := xs (6 * g + 3)) (b := true) (fun X9 Y9 Z9 hX9 hY9 hZ9 hx9 hy9 hz9 g2 u2 v2 hg2 hu2 hv2 => absurd ((show mi_cell (xs (6 * g + 1)) (xs (6 * g + 2)) (xs (6 * g + 3)) = true by rw [hx9, hy9, hz9]; exact lw_cell hX9 hY9 hZ9).symm.trans hk) (by decide)) (fun _ => ?_)
        refine x_istore_7 hP u27_345 (by exact rfl) ?_
        refine x_aload_n hP u27_347 rfl ?_
        refine x_invokevirtual (bc' := bc - 1) (bs' := bs - 6) hP u27_348 rfl rfl rfl rfl rfl ?_
        refine sp96 ?_
        refine x_iload hP u27_351 rfl ?_
        refine x_icmp_eq hP u27_353 (fun q353 => ?_) (fun q353 => ?_)
        · refine x_iload hP u27_358 rfl ?_
          refine x_if_ne hP u27_360 (fun q360 => ?_) (fun q360 => ?_)
          · refine x_goto hP u27_382 ?_
            refine x_iinc_5 (v := 6) hP u27_1388 (by decide) (by exact rfl) ?_
            refine x_goto hP u27_1391 ?_
            rw [show nI (6 * g) + 6 = nI (6 * (g + 1)) from nI_add (6 * g) 6]
            refine hm _ _ _ _ _ _ _ (by repeat (first | exact am_le_nil | apply am_le_cons | apply am_le_none)) (hn _ _ _ _ _ _ _ _ _ _ _ _ _ _ (lw_I_15 hI) _ _ (by omega) (by omega))
          · exact absurd q360 (by decide)
        · exact absurd rfl q353
