/-! THE LAW'S GROUPS: dropBlock, setOffset. (rows by gen/sp43.py) -/
theorem mp_rem_i {ha : Nat → Nat → Int32} {n i : Nat} (h : i ≠ 9) : mp_rem ha n i = ha i := by
  rw [mp_rem]
  split
  · simp only [am_u2, beq_no h, cond_false]
  · rfl
theorem lw_rem {ha : Nat → Nat → Int32} {hz : Int32} {T : Nat → Bool} {n : Nat} {ma : Nat → Nat → Int32} {ms : Nat → Int32} (hH : sx_H ha hz T (n + 1)) (hh : mm_H ha T (n + 1) ma ms) : sx_H (mp_rem ha n) (nI n) T n ∧ mm_H (mp_rem ha n) T n ma (am_u1 (am_u1 ms 15 0) 16 (nI n)) := by
  obtain ⟨h1, h2, h3, h4, h5, h6, h7, h8⟩ := hH
  obtain ⟨g1, g2, g3, g4, g5⟩ := hh
  rw [sx_H, mm_H, mp_rem_i (ha := ha) (n := n) (i := 0) (by decide), mp_rem_i (ha := ha) (n := n) (i := 1) (by decide), mp_rem_i (ha := ha) (n := n) (i := 2) (by decide), mp_rem_i (ha := ha) (n := n) (i := 3) (by decide), mp_rem_i (ha := ha) (n := n) (i := 4) (by decide), mp_rem_i (ha := ha) (n := n) (i := 5) (by decide), mp_rem_i (ha := ha) (n := n) (i := 6) (by decide), mp_rem_i (ha := ha) (n := n) (i := 7) (by decide), mp_rem_i (ha := ha) (n := n) (i := 8) (by decide)]
  exact ⟨⟨rfl, by omega, fun i hi => h3 i (by omega), h4, h5, h6, mw_P_rem (by omega) h7, h8⟩, rfl, fun i hi => g2 i (by omega), g3, g4, g5⟩
theorem lw_off {ha : Nat → Nat → Int32} {hz : Int32} {T : Nat → Bool} {M A : Nat} {y z w : Int32} {ma : Nat → Nat → Int32} {ms : Nat → Int32} (hA : A < 4) (hy : mi_iw y (-15) 15 = true) (hz9 : mi_iw z (-15) 15 = true) (hw : mi_iw w (-15) 15 = true) (hH : sx_H ha hz T M) (hh : mm_H ha T M ma ms) : sx_H (am_u2 ha 4 (mp_3 (ha 4) (3 * A) y z w)) hz T M ∧ mm_H (am_u2 ha 4 (mp_3 (ha 4) (3 * A) y z w)) T M (am_u2 ma 10 (mp_3 (ma 10) (3 * A) y z w)) (am_u1 ms 15 0) := by
  obtain ⟨h1, h2, h3, h4, h5, h6, h7, h8⟩ := hH
  obtain ⟨g1, g2, g3, g4, g5⟩ := hh
  have mp : ∀ (f : Nat → Int32) (j : Nat), mp_3 f (3 * A) y z w j = if j = 3 * A then y else if j = 3 * A + 1 then z else if j = 3 * A + 2 then w else f j := by
    intro f j
    by_cases e0 : j = 3 * A
    · subst e0; rw [if_pos rfl]; exact mp_3_0
    · rw [if_neg e0]
      by_cases e1 : j = 3 * A + 1
      · subst e1; rw [if_pos rfl]; exact mp_3_1
      · rw [if_neg e1]
        by_cases e2 : j = 3 * A + 2
        · subst e2; rw [if_pos rfl]; exact mp_3_2
        · rw [if_neg e2, mp_3]
          exact (pk_un e2).trans ((pk_un e1).trans (pk_un e0))
  have b := ig_iw hy
  have c := ig_iw hz9
  have d := ig_iw hw
  rw [show (-15 : Int32).toInt = -15 from rfl, show (15 : Int32).toInt = 15 from rfl] at b c d
  refine ⟨⟨h1, h2, h3, h4, h5, fun j hj => ?_, h7, h8⟩, g1, g2, g3, fun j hj => ?_, g5⟩
  · show -15 ≤ (mp_3 (ha 4) (3 * A) y z w j).toInt ∧ (mp_3 (ha 4) (3 * A) y z w j).toInt ≤ 15
    rw [mp]
    split
    · exact b
    · split
      · exact c
      · split
        · exact d
        · exact h6 j hj
  · show mp_3 (ma 10) (3 * A) y z w j = mp_3 (ha 4) (3 * A) y z w j
    rw [mp, mp, g4 j hj]
set_option maxHeartbeats 4000000 in
theorem xw_571 {P : am_P} (hm : am_mono P) {L : Nat} {xs : Nat → Int32} (hP : xm_HP (some (L, xs)) 15 27 xl_K P) {ha : Nat → Nat → Int32} {hz : Int32} {a1 : Nat → Nat → Int32} {s1 : Nat → Int32} {t1 : UInt32} {a2 : Nat → Nat → Int32} {s2 : Nat → Int32} {t2 : UInt32} {al : Int32} {ma : Nat → Nat → Int32} {ms : Nat → Int32} {mt : UInt32} {ol : Nat → Int64} {od : Nat → UInt64} {g : Nat} (hg : 6 * g + 6 ≤ L) (hL : L ≤ 3072) (hI : lw_I g ha hz a1 s1 t1 al ma ms mt) {bc bs : Nat} (hbc : 512 - g ≤ bc) (hbs : 6 * (512 - g) ≤ bs) (hn : ∀ (ha : Nat → Nat → Int32) (hz : Int32) (a1 : Nat → Nat → Int32) (s1 : Nat → Int32) (t1 : UInt32) (a2 : Nat → Nat → Int32) (s2 : Nat → Int32) (t2 : UInt32) (al : Int32) (ma : Nat → Nat → Int32) (ms : Nat → Int32) (mt : UInt32) (ol : Nat → Int64) (od : Nat → UInt64), lw_I (g + 1) ha hz a1 s1 t1 al ma ms mt → ∀ bc bs : Nat, 511 - g ≤ bc → 6 * (511 - g) ≤ bs → P 28 [some (.ref 1500), some (.ref 0), some (.ref 39), some (.ref 55), some (.ref 56), some (.int (nI (6 * (g + 1)))), none, none, none, none] [] (am_W ha hz a1 s1 t1 a2 s2 t2 al ma ms mt ol od) bc bs) : P 571 [some (.ref 1500), some (.ref 0), some (.ref 39), some (.ref 55), some (.ref 56), some (.int (nI (6 * g))), none, none, none, none] [] (am_W ha hz a1 s1 t1 a2 s2 t2 al ma ms mt ol od) bc bs := by
  obtain ⟨T, M, D, S, hH, hh, hr, hWD, hS, hE, hD, hV, e8, e9, e10, et, eu, ev, ep, hB⟩ := lw_both hI
  obtain ⟨-, -, -, -, -, -, -, -, -, -, -, hal, hnar, -⟩ := id hI
  refine x_aload_n hP u27_571 rfl ?_
  refine x_aload_n hP u27_572 rfl ?_
  refine x_callS (bc' := bc - 1) (bs' := bs - 6) hP u27_573 rfl rfl (by show bc = bc - 1 + 1; omega) (by show bs = bs - 6 + 6; omega) ?_
  refine xh18 hH.1 hH.2.1 ?_ ?_
  · intro n hMn g9 u v hg9 hu hv
    refine x_istore_6 hP u27_576 (by exact rfl) ?_
    refine x_aload_n hP u27_578 rfl ?_
    refine x_invokevirtual (bc' := bc - 1) (bs' := bs - 6) hP u27_579 rfl rfl rfl rfl rfl ?_
    subst hMn
    have hlw := lw_rem hH hh
    refine sp110 (n9 := n + 1) hh.1 hH.2.1 (fun n2 hn2 g2 u2 v2 hg2 hu2 hv2 => ?_) (fun h => absurd (hh.1.symm.trans h) (nI_ne0 (by omega) (by have := hH.2.1; omega)))
    obtain rfl : n = n2 := by omega
    refine x_istore_7 hP u27_582 (by exact rfl) ?_
    refine x_aload_n hP u27_584 rfl ?_
    refine x_invokevirtual (bc' := bc - 1) (bs' := bs - 6) hP u27_585 rfl rfl rfl rfl rfl ?_
    refine sp96 ?_
    refine x_iload hP u27_588 rfl ?_
    refine x_icmp_eq hP u27_590 (fun q590 => ?_) (fun q590 => ?_)
    · refine x_iload hP u27_595 rfl ?_
      refine x_if_ne hP u27_597 (fun q597 => ?_) (fun q597 => ?_)
      · exact absurd rfl q597
      · refine x_aload_n hP u27_600 rfl ?_
        refine x_iconst (v := 0) hP u27_601 (by decide) ?_
        refine x_laload hP u27_602 rfl (vp_in_nI (n := 0) (by decide) (by decide)) ?_
        refine x_iload hP u27_603 rfl ?_
        refine x_i2l hP u27_605 ?_
        refine x_lcmp hP u27_606 ?_
        refine x_if_eq hP u27_607 (fun q607 => ?_) (fun q607 => ?_)
        · refine x_goto hP u27_612 ?_
          refine x_iinc_5 (v := 6) hP u27_1388 (by decide) (by exact rfl) ?_
          refine x_goto hP u27_1391 ?_
          rw [show nI (6 * g) + 6 = nI (6 * (g + 1)) from nI_add (6 * g) 6]
          refine hm _ _ _ _ _ _ _ (by repeat (first | exact am_le_nil | apply am_le_cons | apply am_le_none)) (hn _ _ _ _ _ _ _ _ _ _ _ _ _ _ (lw_begin hlw.1 hlw.2 hg9 hu hv hg2 hu2 hv2) _ _ (by omega) (by omega))
        · exact absurd (lw_cmp rfl) q607
    · exact absurd rfl q590
  · intro h0
    refine x_istore_6 hP u27_576 (by exact rfl) ?_
    refine x_aload_n hP u27_578 rfl ?_
    refine x_invokevirtual (bc' := bc - 1) (bs' := bs - 6) hP u27_579 rfl rfl rfl rfl rfl ?_
    refine sp110 (n9 := M) hh.1 hH.2.1 (fun n2 hn2 g2 u2 v2 hg2 hu2 hv2 => absurd (hH.1.symm.trans h0) (nI_ne0 (by omega) (by have := hH.2.1; omega))) (fun _ => ?_)
    refine x_istore_7 hP u27_582 (by exact rfl) ?_
    refine x_aload_n hP u27_584 rfl ?_
    refine x_invokevirtual (bc' := bc - 1) (bs' := bs - 6) hP u27_585 rfl rfl rfl rfl rfl ?_
    refine sp96 ?_
    refine x_iload hP u27_588 rfl ?_
    refine x_icmp_eq hP u27_590 (fun q590 => ?_) (fun q590 => ?_)
    · refine x_iload hP u27_595 rfl ?_
      refine x_if_ne hP u27_597 (fun q597 => ?_) (fun q597 => ?_)
      · refine x_goto hP u27_612 ?_
        refine x_iinc_5 (v := 6) hP u27_1388 (by decide) (by exact rfl) ?_
        refine x_goto hP u27_1391 ?_
        rw [show nI (6 * g) + 6 = nI (6 * (g + 1)) from nI_add (6 * g) 6]
        refine hm _ _ _ _ _ _ _ (by repeat (first | exact am_le_nil | apply am_le_cons | apply am_le_none)) (hn _ _ _ _ _ _ _ _ _ _ _ _ _ _ (lw_I_15 hI) _ _ (by omega) (by omega))
      · exact absurd q597 (by decide)
    · exact absurd rfl q590
set_option maxHeartbeats 4000000 in
theorem xw_385 {P : am_P} (hm : am_mono P) {L : Nat} {xs : Nat → Int32} (hP : xm_HP (some (L, xs)) 15 27 xl_K P) {ha : Nat → Nat → Int32} {hz : Int32} {a1 : Nat → Nat → Int32} {s1 : Nat → Int32} {t1 : UInt32} {a2 : Nat → Nat → Int32} {s2 : Nat → Int32} {t2 : UInt32} {al : Int32} {ma : Nat → Nat → Int32} {ms : Nat → Int32} {mt : UInt32} {ol : Nat → Int64} {od : Nat → UInt64} {g : Nat} (hg : 6 * g + 6 ≤ L) (hL : L ≤ 3072) (hI : lw_I g ha hz a1 s1 t1 al ma ms mt) {bc bs : Nat} (hbc : 512 - g ≤ bc) (hbs : 6 * (512 - g) ≤ bs) (hn : ∀ (ha : Nat → Nat → Int32) (hz : Int32) (a1 : Nat → Nat → Int32) (s1 : Nat → Int32) (t1 : UInt32) (a2 : Nat → Nat → Int32) (s2 : Nat → Int32) (t2 : UInt32) (al : Int32) (ma : Nat → Nat → Int32) (ms : Nat → Int32) (mt : UInt32) (ol : Nat → Int64) (od : Nat → UInt64), lw_I (g + 1) ha hz a1 s1 t1 al ma ms mt → ∀ bc bs : Nat, 511 - g ≤ bc → 6 * (511 - g) ≤ bs → P 28 [some (.ref 1500), some (.ref 0), some (.ref 39), some (.ref 55), some (.ref 56), some (.int (nI (6 * (g + 1)))), none, none, none, none] [] (am_W ha hz a1 s1 t1 a2 s2 t2 al ma ms mt ol od) bc bs) : P 385 [some (.ref 1500), some (.ref 0), some (.ref 39), some (.ref 55), some (.ref 56), some (.int (nI (6 * g))), none, none, none, none] [] (am_W ha hz a1 s1 t1 a2 s2 t2 al ma ms mt ol od) bc bs := by
  obtain ⟨T, M, D, S, hH, hh, hr, hWD, hS, hE, hD, hV, e8, e9, e10, et, eu, ev, ep, hB⟩ := lw_both hI
  obtain ⟨-, -, -, -, -, -, -, -, -, -, -, hal, hnar, -⟩ := id hI
  refine x_aload_n hP u27_385 rfl ?_
  refine x_aload_n hP u27_386 rfl ?_
  refine x_iload hP u27_387 rfl ?_
  refine x_iconst (v := 1) hP u27_389 (by decide) ?_
  refine x_iadd hP u27_390 ?_
  rw [show nI (6 * g) + 1 = nI (6 * g + 1) from nI_add (6 * g) 1]
  refine x_sld hP u27_391 (vp_in_nI (by omega) (by omega)) ?_
  rw [nI_clamp (by omega)]
  refine x_aload_n hP u27_392 rfl ?_
  refine x_iload hP u27_393 rfl ?_
  refine x_iconst (v := 2) hP u27_395 (by decide) ?_
  refine x_iadd hP u27_396 ?_
  rw [show nI (6 * g) + 2 = nI (6 * g + 2) from nI_add (6 * g) 2]
  refine x_sld hP u27_397 (vp_in_nI (by omega) (by omega)) ?_
  rw [nI_clamp (by omega)]
  refine x_aload_n hP u27_398 rfl ?_
  refine x_iload hP u27_399 rfl ?_
  refine x_iconst (v := 3) hP u27_401 (by decide) ?_
  refine x_iadd hP u27_402 ?_
  rw [show nI (6 * g) + 3 = nI (6 * g + 3) from nI_add (6 * g) 3]
  refine x_sld hP u27_403 (vp_in_nI (by omega) (by omega)) ?_
  rw [nI_clamp (by omega)]
  refine x_aload_n hP u27_404 rfl ?_
  refine x_iload hP u27_405 rfl ?_
  refine x_iconst (v := 4) hP u27_407 (by decide) ?_
  refine x_iadd hP u27_408 ?_
  rw [show nI (6 * g) + 4 = nI (6 * g + 4) from nI_add (6 * g) 4]
  refine x_sld hP u27_409 (vp_in_nI (by omega) (by omega)) ?_
  rw [nI_clamp (by omega)]
  refine x_aload_n hP u27_410 rfl ?_
  refine x_callS (bc' := bc - 1) (bs' := bs - 6) hP u27_411 rfl rfl (by show bc = bc - 1 + 1; omega) (by show bs = bs - 6 + 6; omega) ?_
  refine xh16 (x := xs (6 * g + 1)) (y := xs (6 * g + 2)) (z := xs (6 * g + 3)) (w9 := xs (6 * g + 4)) ?_ ?_
  · intro A hA hx hy hzz hw g9 u v hg9 hu hv
    refine x_istore_6 hP u27_414 (by exact rfl) ?_
    refine x_aload_n hP u27_416 rfl ?_
    refine x_aload_n hP u27_417 rfl ?_
    refine x_iload hP u27_418 rfl ?_
    refine x_iconst (v := 1) hP u27_420 (by decide) ?_
    refine x_iadd hP u27_421 ?_
    rw [show nI (6 * g) + 1 = nI (6 * g + 1) from nI_add (6 * g) 1]
    refine x_sld hP u27_422 (vp_in_nI (by omega) (by omega)) ?_
    rw [nI_clamp (by omega)]
    refine x_aload_n hP u27_423 rfl ?_
    refine x_iload hP u27_424 rfl ?_
    refine x_iconst (v := 2) hP u27_426 (by decide) ?_
    refine x_iadd hP u27_427 ?_
    rw [show nI (6 * g) + 2 = nI (6 * g + 2) from nI_add (6 * g) 2]
    refine x_sld hP u27_428 (vp_in_nI (by omega) (by omega)) ?_
    rw [nI_clamp (by omega)]
    refine x_aload_n hP u27_429 rfl ?_
    refine x_iload hP u27_430 rfl ?_
    refine x_iconst (v := 3) hP u27_432 (by decide) ?_
    refine x_iadd hP u27_433 ?_
    rw [show nI (6 * g) + 3 = nI (6 * g + 3) from nI_add (6 * g) 3]
    refine x_sld hP u27_434 (vp_in_nI (by omega) (by omega)) ?_
    rw [nI_clamp (by omega)]
    refine x_aload_n hP u27_435 rfl ?_
    refine x_iload hP u27_436 rfl ?_
    refine x_iconst (v := 4) hP u27_438 (by decide) ?_
    refine x_iadd hP u27_439 ?_
    rw [show nI (6 * g) + 4 = nI (6 * g + 4) from nI_add (6 * g) 4]
    refine x_sld hP u27_440 (vp_in_nI (by omega) (by omega)) ?_
    rw [nI_clamp (by omega)]
    refine x_invokevirtual (bc' := bc - 1) (bs' := bs - 6) hP u27_441 rfl rfl rfl rfl rfl ?_
    have hlw := lw_off hA hy hzz hw hH hh
    refine sp106 (x := xs (6 * g + 1)) (y := xs (6 * g + 2)) (z := xs (6 * g + 3)) (w := xs (6 * g + 4)) (fun A2 hA2 hx2 _ _ _ g2 u2 v2 hg2 hu2 hv2 => ?_) (fun h => ?_)
    rotate_left
    · rw [hy, hzz, hw, hx, show mi_iw (nI A) 0 3 = true from mi_iw_at (N := 3) (by decide) (by omega)] at h
      cases h
    obtain rfl : A = A2 := (nI_inj (by omega) (by omega)).mp (hx.symm.trans hx2)
    refine x_istore_7 hP u27_444 (by exact rfl) ?_
    refine x_aload_n hP u27_446 rfl ?_
    refine x_invokevirtual (bc' := bc - 1) (bs' := bs - 6) hP u27_447 rfl rfl rfl rfl rfl ?_
    refine sp96 ?_
    refine x_iload hP u27_450 rfl ?_
    refine x_icmp_eq hP u27_452 (fun q452 => ?_) (fun q452 => ?_)
    · refine x_iload hP u27_457 rfl ?_
      refine x_if_ne hP u27_459 (fun q459 => ?_) (fun q459 => ?_)
      · exact absurd rfl q459
      · refine x_aload_n hP u27_462 rfl ?_
        refine x_iconst (v := 0) hP u27_463 (by decide) ?_
        refine x_laload hP u27_464 rfl (vp_in_nI (n := 0) (by decide) (by decide)) ?_
        refine x_iload hP u27_465 rfl ?_
        refine x_i2l hP u27_467 ?_
        refine x_lcmp hP u27_468 ?_
        refine x_if_eq hP u27_469 (fun q469 => ?_) (fun q469 => ?_)
        · refine x_goto hP u27_474 ?_
          refine x_iinc_5 (v := 6) hP u27_1388 (by decide) (by exact rfl) ?_
          refine x_goto hP u27_1391 ?_
          rw [show nI (6 * g) + 6 = nI (6 * (g + 1)) from nI_add (6 * g) 6]
          refine hm _ _ _ _ _ _ _ (by repeat (first | exact am_le_nil | apply am_le_cons | apply am_le_none)) (hn _ _ _ _ _ _ _ _ _ _ _ _ _ _ (lw_begin hlw.1 hlw.2 hg9 hu hv hg2 hu2 hv2) _ _ (by omega) (by omega))
        · exact absurd (lw_cmp (by
            show (ha 4 (3 * A)).toInt64 = _
            rw [hh.2.2.2.1 _ (by omega)])) q469
    · exact absurd rfl q452
  · intro hk
    refine x_istore_6 hP u27_414 (by exact rfl) ?_
    refine x_aload_n hP u27_416 rfl ?_
    refine x_aload_n hP u27_417 rfl ?_
    refine x_iload hP u27_418 rfl ?_
    refine x_iconst (v := 1) hP u27_420 (by decide) ?_
    refine x_iadd hP u27_421 ?_
    rw [show nI (6 * g) + 1 = nI (6 * g + 1) from nI_add (6 * g) 1]
    refine x_sld hP u27_422 (vp_in_nI (by omega) (by omega)) ?_
    rw [nI_clamp (by omega)]
    refine x_aload_n hP u27_423 rfl ?_
    refine x_iload hP u27_424 rfl ?_
    refine x_iconst (v := 2) hP u27_426 (by decide) ?_
    refine x_iadd hP u27_427 ?_
    rw [show nI (6 * g) + 2 = nI (6 * g + 2) from nI_add (6 * g) 2]
    refine x_sld hP u27_428 (vp_in_nI (by omega) (by omega)) ?_
    rw [nI_clamp (by omega)]
    refine x_aload_n hP u27_429 rfl ?_
    refine x_iload hP u27_430 rfl ?_
    refine x_iconst (v := 3) hP u27_432 (by decide) ?_
    refine x_iadd hP u27_433 ?_
    rw [show nI (6 * g) + 3 = nI (6 * g + 3) from nI_add (6 * g) 3]
    refine x_sld hP u27_434 (vp_in_nI (by omega) (by omega)) ?_
    rw [nI_clamp (by omega)]
    refine x_aload_n hP u27_435 rfl ?_
    refine x_iload hP u27_436 rfl ?_
    refine x_iconst (v := 4) hP u27_438 (by decide) ?_
    refine x_iadd hP u27_439 ?_
    rw [show nI (6 * g) + 4 = nI (6 * g + 4) from nI_add (6 * g) 4]
    refine x_sld hP u27_440 (vp_in_nI (by omega) (by omega)) ?_
    rw [nI_clamp (by omega)]
    refine x_invokevirtual (bc' := bc - 1) (bs' := bs - 6) hP u27_441 rfl rfl rfl rfl rfl ?_
    refine sp106 (x := xs (6 * g + 1)) (y := xs (6 * g + 2)) (z := xs (6 * g + 3)) (w := xs (6 * g + 4)) (fun A2 hA2 hx2 hy2 hz2 hw2 g2 u2 v2 hg2 hu2 hv2 => ?_) (fun _ => ?_)
    · rw [hy2, hz2, hw2, hx2, show mi_iw (nI A2) 0 3 = true from mi_iw_at (N := 3) (by decide) (by omega)] at hk
      cases hk
    refine x_istore_7 hP u27_444 (by exact rfl) ?_
    refine x_aload_n hP u27_446 rfl ?_
    refine x_invokevirtual (bc' := bc - 1) (bs' := bs - 6) hP u27_447 rfl rfl rfl rfl rfl ?_
    refine sp96 ?_
    refine x_iload hP u27_450 rfl ?_
    refine x_icmp_eq hP u27_452 (fun q452 => ?_) (fun q452 => ?_)
    · refine x_iload hP u27_457 rfl ?_
      refine x_if_ne hP u27_459 (fun q459 => ?_) (fun q459 => ?_)
      · refine x_goto hP u27_474 ?_
        refine x_iinc_5 (v := 6) hP u27_1388 (by decide) (by exact rfl) ?_
        refine x_goto hP u27_1391 ?_
        rw [show nI (6 * g) + 6 = nI (6 * (g + 1)) from nI_add (6 * g) 6]
        refine hm _ _ _ _ _ _ _ (by repeat (first | exact am_le_nil | apply am_le_cons | apply am_le_none)) (hn _ _ _ _ _ _ _ _ _ _ _ _ _ _ (lw_I_15 hI) _ _ (by omega) (by omega))
      · exact absurd q459 (by decide)
    · exact absurd rfl q452
