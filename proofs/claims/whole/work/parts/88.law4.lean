/-! THE LAW'S GROUPS: run, checksum, timeBits, reset, isSound. (rows by gen/sp41.py) -/
theorem sx_res_nar {ha : Nat → Nat → Int32} {hz : Int32} {T : Nat → Bool} {M : Nat} : ∀ n D, narrow .char (.int (sx_res ha hz T M n D).2) = .int (sx_res ha hz T M n D).2
  | 0, D => rfl
  | n + 1, D => by
    rw [sx_res]
    split
    · rfl
    · split
      · exact nar_al
      · split
        · rfl
        · exact sx_res_nar n (D + 1)
theorem lw_iw1 {n : Nat} (h1 : 1 ≤ n) (h2 : n ≤ 100) : mi_iw (nI n) 1 100 = true := by
  show (decide (nI 1 ≤ nI n) && decide (nI n ≤ nI 100)) = true
  rw [decide_eq_true ((nI_leI (a := 1) (by omega) (by omega)).mpr h1), decide_eq_true ((nI_leI (b := 100) (by omega) (by omega)).mpr h2)]
  rfl
set_option maxHeartbeats 4000000 in
theorem xw_628 {P : am_P} (hm : am_mono P) {L : Nat} {xs : Nat → Int32} (hP : xm_HP (some (L, xs)) 15 27 xl_K P) {ha : Nat → Nat → Int32} {hz : Int32} {a1 : Nat → Nat → Int32} {s1 : Nat → Int32} {t1 : UInt32} {a2 : Nat → Nat → Int32} {s2 : Nat → Int32} {t2 : UInt32} {al : Int32} {ma : Nat → Nat → Int32} {ms : Nat → Int32} {mt : UInt32} {ol : Nat → Int64} {od : Nat → UInt64} {g : Nat} (hg : 6 * g + 6 ≤ L) (hL : L ≤ 3072) (hI : lw_I g ha hz a1 s1 t1 al ma ms mt) {bc bs : Nat} (hbc : 512 - g ≤ bc) (hbs : 6 * (512 - g) ≤ bs) (hn : ∀ (ha : Nat → Nat → Int32) (hz : Int32) (a1 : Nat → Nat → Int32) (s1 : Nat → Int32) (t1 : UInt32) (a2 : Nat → Nat → Int32) (s2 : Nat → Int32) (t2 : UInt32) (al : Int32) (ma : Nat → Nat → Int32) (ms : Nat → Int32) (mt : UInt32) (ol : Nat → Int64) (od : Nat → UInt64), lw_I (g + 1) ha hz a1 s1 t1 al ma ms mt → ∀ bc bs : Nat, 511 - g ≤ bc → 6 * (511 - g) ≤ bs → P 28 [some (.ref 1500), some (.ref 0), some (.ref 39), some (.ref 55), some (.ref 56), some (.int (nI (6 * (g + 1)))), none, none, none, none] [] (am_W ha hz a1 s1 t1 a2 s2 t2 al ma ms mt ol od) bc bs) : P 628 [some (.ref 1500), some (.ref 0), some (.ref 39), some (.ref 55), some (.ref 56), some (.int (nI (6 * g))), none, none, none, none] [] (am_W ha hz a1 s1 t1 a2 s2 t2 al ma ms mt ol od) bc bs := by
  have hI9 := hI
  obtain ⟨T, M, D, S, hH, hh, hr, hWD, hS, hE, hR, hal, hnar, hD⟩ := hI
  refine x_aload_n hP u27_628 rfl ?_
  refine x_aload_n hP u27_629 rfl ?_
  refine x_iload hP u27_630 rfl ?_
  refine x_iconst (v := 1) hP u27_632 (by decide) ?_
  refine x_iadd hP u27_633 ?_
  rw [show nI (6 * g) + 1 = nI (6 * g + 1) from nI_add (6 * g) 1]
  refine x_sld hP u27_634 (vp_in_nI (by omega) (by omega)) ?_
  rw [nI_clamp (by omega)]
  refine x_aload_n hP u27_635 rfl ?_
  refine x_callS (bc' := bc - 1) (bs' := bs - 6) hP u27_636 rfl rfl (by show bc = bc - 1 + 1; omega) (by show bs = bs - 6 + 6; omega) ?_
  refine xh19 hH hr hS hE (x := xs (6 * g + 1)) ?_ ?_ ?_
  · intro hk
    refine x_istore_6 hP u27_639 (by exact rfl) ?_
    refine x_aload_n hP u27_641 rfl ?_
    refine x_aload_n hP u27_642 rfl ?_
    refine x_iload hP u27_643 rfl ?_
    refine x_iconst (v := 1) hP u27_645 (by decide) ?_
    refine x_iadd hP u27_646 ?_
    rw [show nI (6 * g) + 1 = nI (6 * g + 1) from nI_add (6 * g) 1]
    refine x_sld hP u27_647 (vp_in_nI (by omega) (by omega)) ?_
    rw [nI_clamp (by omega)]
    refine x_invokevirtual (bc' := bc - 1) (bs' := bs - 6) hP u27_648 rfl rfl rfl rfl rfl ?_
    refine sp134 (x := xs (6 * g + 1)) hH hh hr hR (fun _ => ?_) (fun h => absurd (h.symm.trans hk) (by decide)) (fun n hx hn1 hn9 hW => absurd ((show mi_iw (xs (6 * g + 1)) 1 100 = true by rw [hx]; exact lw_iw1 hn1 hn9).symm.trans hk) (by decide))
    refine x_istore_7 hP u27_651 (by exact rfl) ?_
    refine x_aload_n hP u27_653 rfl ?_
    refine x_invokevirtual (bc' := bc - 1) (bs' := bs - 6) hP u27_654 rfl rfl rfl rfl rfl ?_
    refine sp96 ?_
    refine x_iload hP u27_657 rfl ?_
    refine x_icmp_eq hP u27_659 (fun q659 => ?_) (fun q659 => ?_)
    · refine x_iload hP u27_664 rfl ?_
      refine x_if_ne hP u27_666 (fun q666 => ?_) (fun q666 => ?_)
      · refine x_goto hP u27_681 ?_
        refine x_iinc_5 (v := 6) hP u27_1388 (by decide) (by exact rfl) ?_
        refine x_goto hP u27_1391 ?_
        rw [show nI (6 * g) + 6 = nI (6 * (g + 1)) from nI_add (6 * g) 6]
        refine hm _ _ _ _ _ _ _ (by repeat (first | exact am_le_nil | apply am_le_cons | apply am_le_none)) (hn _ _ _ _ _ _ _ _ _ _ _ _ _ _ (lw_I_15 hI9) _ _ (by omega) (by omega))
      · exact absurd q666 (by decide)
    · exact absurd rfl q659
  · intro hk hnW
    refine x_istore_6 hP u27_639 (by exact rfl) ?_
    refine x_aload_n hP u27_641 rfl ?_
    refine x_aload_n hP u27_642 rfl ?_
    refine x_iload hP u27_643 rfl ?_
    refine x_iconst (v := 1) hP u27_645 (by decide) ?_
    refine x_iadd hP u27_646 ?_
    rw [show nI (6 * g) + 1 = nI (6 * g + 1) from nI_add (6 * g) 1]
    refine x_sld hP u27_647 (vp_in_nI (by omega) (by omega)) ?_
    rw [nI_clamp (by omega)]
    refine x_invokevirtual (bc' := bc - 1) (bs' := bs - 6) hP u27_648 rfl rfl rfl rfl rfl ?_
    refine sp134 (x := xs (6 * g + 1)) hH hh hr hR (fun h => absurd (hk.symm.trans h) (by decide)) (fun _ _ => ?_) (fun n hx hn1 hn9 hW => absurd hW hnW)
    refine x_istore_7 hP u27_651 (by exact rfl) ?_
    refine x_aload_n hP u27_653 rfl ?_
    refine x_invokevirtual (bc' := bc - 1) (bs' := bs - 6) hP u27_654 rfl rfl rfl rfl rfl ?_
    refine sp96 ?_
    refine x_iload hP u27_657 rfl ?_
    refine x_icmp_eq hP u27_659 (fun q659 => ?_) (fun q659 => ?_)
    · refine x_iload hP u27_664 rfl ?_
      refine x_if_ne hP u27_666 (fun q666 => ?_) (fun q666 => ?_)
      · refine x_goto hP u27_681 ?_
        refine x_iinc_5 (v := 6) hP u27_1388 (by decide) (by exact rfl) ?_
        refine x_goto hP u27_1391 ?_
        rw [show nI (6 * g) + 6 = nI (6 * (g + 1)) from nI_add (6 * g) 6]
        refine hm _ _ _ _ _ _ _ (by repeat (first | exact am_le_nil | apply am_le_cons | apply am_le_none)) (hn _ _ _ _ _ _ _ _ _ _ _ _ _ _ (lw_I_15 hI9) _ _ (by omega) (by omega))
      · exact absurd q666 (by decide)
    · exact absurd rfl q659
  · intro n hx hn1 hn9 hW r v b p t9 S9 hres hr9 hS9 hE9
    refine x_istore_6 hP u27_639 (by exact rfl) ?_
    refine x_aload_n hP u27_641 rfl ?_
    refine x_aload_n hP u27_642 rfl ?_
    refine x_iload hP u27_643 rfl ?_
    refine x_iconst (v := 1) hP u27_645 (by decide) ?_
    refine x_iadd hP u27_646 ?_
    rw [show nI (6 * g) + 1 = nI (6 * g + 1) from nI_add (6 * g) 1]
    refine x_sld hP u27_647 (vp_in_nI (by omega) (by omega)) ?_
    rw [nI_clamp (by omega)]
    refine x_invokevirtual (bc' := bc - 1) (bs' := bs - 6) hP u27_648 rfl rfl rfl rfl rfl ?_
    refine sp134 (x := xs (6 * g + 1)) hH hh hr hR (fun h => absurd ((show mi_iw (xs (6 * g + 1)) 1 100 = true by rw [hx]; exact lw_iw1 hn1 hn9).symm.trans h) (by decide)) (fun _ h => absurd hW h) (fun n2 hx2 g1 g2 g3 r2 mb m9 t92 hres2 hr2 hR2 hh2 h15 => ?_)
    obtain rfl : n = n2 := (nI_inj (by omega) (by omega)).mp (hx.symm.trans hx2)
    have hle := sx_res_le (ha := ha) (hz := hz) (T := T) (M := M) n D
    have hnar9 := sx_res_nar (ha := ha) (hz := hz) (T := T) (M := M) n D
    rw [hres] at hle hnar9
    have e := hres.symm.trans hres2
    injection e with e1 e2
    subst e1 e2
    refine x_istore_7 hP u27_651 (by exact rfl) ?_
    refine x_aload_n hP u27_653 rfl ?_
    refine x_invokevirtual (bc' := bc - 1) (bs' := bs - 6) hP u27_654 rfl rfl rfl rfl rfl ?_
    refine sp96 (ms := m9) ?_
    rw [h15]
    refine x_iload hP u27_657 rfl ?_
    refine x_icmp_eq hP u27_659 (fun q659 => ?_) (fun q659 => ?_)
    · refine x_iload hP u27_664 rfl ?_
      refine x_if_ne hP u27_666 (fun q666 => ?_) (fun q666 => ?_)
      · exact absurd rfl q666
      · refine x_aload_n hP u27_669 rfl ?_
        refine x_iconst (v := 0) hP u27_670 (by decide) ?_
        refine x_laload hP u27_671 rfl (vp_in_nI (n := 0) (by decide) (by decide)) ?_
        refine x_iload hP u27_672 rfl ?_
        refine x_i2l hP u27_674 ?_
        refine x_lcmp hP u27_675 ?_
        refine x_if_eq hP u27_676 (fun q676 => ?_) (fun q676 => ?_)
        · refine x_goto hP u27_681 ?_
          refine x_iinc_5 (v := 6) hP u27_1388 (by decide) (by exact rfl) ?_
          refine x_goto hP u27_1391 ?_
          rw [show nI (6 * g) + 6 = nI (6 * (g + 1)) from nI_add (6 * g) 6]
          refine hm _ _ _ _ _ _ _ (by repeat (first | exact am_le_nil | apply am_le_cons | apply am_le_none)) (hn _ _ _ _ _ _ _ _ _ _ _ _ _ _ ⟨T, M, D + r, S9, hH, hh2, hr9, fun _ => hW, hS9, hE9, hR2, rfl, hnar9, by have : r ≤ n := hle; omega⟩ _ _ (by omega) (by omega))
        · exact absurd (lw_cmp rfl) q676
    · exact absurd rfl q659
set_option maxHeartbeats 4000000 in
theorem xw_1197 {P : am_P} (hm : am_mono P) {L : Nat} {xs : Nat → Int32} (hP : xm_HP (some (L, xs)) 15 27 xl_K P) {ha : Nat → Nat → Int32} {hz : Int32} {a1 : Nat → Nat → Int32} {s1 : Nat → Int32} {t1 : UInt32} {a2 : Nat → Nat → Int32} {s2 : Nat → Int32} {t2 : UInt32} {al : Int32} {ma : Nat → Nat → Int32} {ms : Nat → Int32} {mt : UInt32} {ol : Nat → Int64} {od : Nat → UInt64} {g : Nat} (hg : 6 * g + 6 ≤ L) (hL : L ≤ 3072) (hI : lw_I g ha hz a1 s1 t1 al ma ms mt) {bc bs : Nat} (hbc : 512 - g ≤ bc) (hbs : 6 * (512 - g) ≤ bs) (hn : ∀ (ha : Nat → Nat → Int32) (hz : Int32) (a1 : Nat → Nat → Int32) (s1 : Nat → Int32) (t1 : UInt32) (a2 : Nat → Nat → Int32) (s2 : Nat → Int32) (t2 : UInt32) (al : Int32) (ma : Nat → Nat → Int32) (ms : Nat → Int32) (mt : UInt32) (ol : Nat → Int64) (od : Nat → UInt64), lw_I (g + 1) ha hz a1 s1 t1 al ma ms mt → ∀ bc bs : Nat, 511 - g ≤ bc → 6 * (511 - g) ≤ bs → P 28 [some (.ref 1500), some (.ref 0), some (.ref 39), some (.ref 55), some (.ref 56), some (.int (nI (6 * (g + 1)))), none, none, none, none] [] (am_W ha hz a1 s1 t1 a2 s2 t2 al ma ms mt ol od) bc bs) : P 1197 [some (.ref 1500), some (.ref 0), some (.ref 39), some (.ref 55), some (.ref 56), some (.int (nI (6 * g))), none, none, none, none] [] (am_W ha hz a1 s1 t1 a2 s2 t2 al ma ms mt ol od) bc bs := by
  obtain ⟨T, M, D, S, hH, hh, hr, hWD, hS, hE, hD, hV, e8, e9, e10, et, eu, ev, ep, hB⟩ := lw_both hI
  obtain ⟨-, -, -, -, -, -, -, -, -, -, -, hal, hnar, -⟩ := id hI
  refine x_aload_n hP u27_1197 rfl ?_
  refine x_invokevirtual (bc' := bc) (bs' := bs) hP u27_1198 rfl rfl rfl rfl rfl ?_
  refine sp78 hS ?_
  refine x_aload_n hP u27_1201 rfl ?_
  refine x_invokevirtual (bc' := bc) (bs' := bs) hP u27_1202 rfl rfl rfl rfl rfl ?_
  refine sp149 hB ?_
  refine x_lcmp hP u27_1205 ?_
  refine x_if_eq hP u27_1206 (fun q1206 => ?_) (fun q1206 => ?_)
  · refine x_iinc_5 (v := 6) hP u27_1388 (by decide) (by exact rfl) ?_
    refine x_goto hP u27_1391 ?_
    rw [show nI (6 * g) + 6 = nI (6 * (g + 1)) from nI_add (6 * g) 6]
    refine hm _ _ _ _ _ _ _ (by repeat (first | exact am_le_nil | apply am_le_cons | apply am_le_none)) (hn _ _ _ _ _ _ _ _ _ _ _ _ _ _ (lw_I_15 hI) _ _ (by omega) (by omega))
  · exact absurd (lw_cmp rfl) q1206
set_option maxHeartbeats 4000000 in
theorem xw_1254 {P : am_P} (hm : am_mono P) {L : Nat} {xs : Nat → Int32} (hP : xm_HP (some (L, xs)) 15 27 xl_K P) {ha : Nat → Nat → Int32} {hz : Int32} {a1 : Nat → Nat → Int32} {s1 : Nat → Int32} {t1 : UInt32} {a2 : Nat → Nat → Int32} {s2 : Nat → Int32} {t2 : UInt32} {al : Int32} {ma : Nat → Nat → Int32} {ms : Nat → Int32} {mt : UInt32} {ol : Nat → Int64} {od : Nat → UInt64} {g : Nat} (hg : 6 * g + 6 ≤ L) (hL : L ≤ 3072) (hI : lw_I g ha hz a1 s1 t1 al ma ms mt) {bc bs : Nat} (hbc : 512 - g ≤ bc) (hbs : 6 * (512 - g) ≤ bs) (hn : ∀ (ha : Nat → Nat → Int32) (hz : Int32) (a1 : Nat → Nat → Int32) (s1 : Nat → Int32) (t1 : UInt32) (a2 : Nat → Nat → Int32) (s2 : Nat → Int32) (t2 : UInt32) (al : Int32) (ma : Nat → Nat → Int32) (ms : Nat → Int32) (mt : UInt32) (ol : Nat → Int64) (od : Nat → UInt64), lw_I (g + 1) ha hz a1 s1 t1 al ma ms mt → ∀ bc bs : Nat, 511 - g ≤ bc → 6 * (511 - g) ≤ bs → P 28 [some (.ref 1500), some (.ref 0), some (.ref 39), some (.ref 55), some (.ref 56), some (.int (nI (6 * (g + 1)))), none, none, none, none] [] (am_W ha hz a1 s1 t1 a2 s2 t2 al ma ms mt ol od) bc bs) : P 1254 [some (.ref 1500), some (.ref 0), some (.ref 39), some (.ref 55), some (.ref 56), some (.int (nI (6 * g))), none, none, none, none] [] (am_W ha hz a1 s1 t1 a2 s2 t2 al ma ms mt ol od) bc bs := by
  obtain ⟨T, M, D, S, hH, hh, hr, hWD, hS, hE, hD, hV, e8, e9, e10, et, eu, ev, ep, hB⟩ := lw_both hI
  obtain ⟨-, -, -, -, -, -, -, -, -, -, -, hal, hnar, -⟩ := id hI
  refine x_aload_n hP u27_1254 rfl ?_
  refine x_invokevirtual (bc' := bc) (bs' := bs) hP u27_1255 rfl rfl rfl rfl rfl ?_
  refine sp80 hV.2.2.2.2.2.2.1 ?_
  refine x_aload_n hP u27_1258 rfl ?_
  refine x_invokevirtual (bc' := bc) (bs' := bs) hP u27_1259 rfl rfl rfl rfl rfl ?_
  refine sp151 (by rw [← et]; exact ff_cmp hV.2.2.2.2.2.2.1) ?_
  refine x_icmp_eq hP u27_1262 (fun q1262 => ?_) (fun q1262 => ?_)
  · refine x_iinc_5 (v := 6) hP u27_1388 (by decide) (by exact rfl) ?_
    refine x_goto hP u27_1391 ?_
    rw [show nI (6 * g) + 6 = nI (6 * (g + 1)) from nI_add (6 * g) 6]
    refine hm _ _ _ _ _ _ _ (by repeat (first | exact am_le_nil | apply am_le_cons | apply am_le_none)) (hn _ _ _ _ _ _ _ _ _ _ _ _ _ _ (lw_I_15 hI) _ _ (by omega) (by omega))
  · exact absurd (by rw [et]) q1262
set_option maxHeartbeats 4000000 in
theorem xw_1375 {P : am_P} (hm : am_mono P) {L : Nat} {xs : Nat → Int32} (hP : xm_HP (some (L, xs)) 15 27 xl_K P) {ha : Nat → Nat → Int32} {hz : Int32} {a1 : Nat → Nat → Int32} {s1 : Nat → Int32} {t1 : UInt32} {a2 : Nat → Nat → Int32} {s2 : Nat → Int32} {t2 : UInt32} {al : Int32} {ma : Nat → Nat → Int32} {ms : Nat → Int32} {mt : UInt32} {ol : Nat → Int64} {od : Nat → UInt64} {g : Nat} (hg : 6 * g + 6 ≤ L) (hL : L ≤ 3072) (hI : lw_I g ha hz a1 s1 t1 al ma ms mt) {bc bs : Nat} (hbc : 512 - g ≤ bc) (hbs : 6 * (512 - g) ≤ bs) (hn : ∀ (ha : Nat → Nat → Int32) (hz : Int32) (a1 : Nat → Nat → Int32) (s1 : Nat → Int32) (t1 : UInt32) (a2 : Nat → Nat → Int32) (s2 : Nat → Int32) (t2 : UInt32) (al : Int32) (ma : Nat → Nat → Int32) (ms : Nat → Int32) (mt : UInt32) (ol : Nat → Int64) (od : Nat → UInt64), lw_I (g + 1) ha hz a1 s1 t1 al ma ms mt → ∀ bc bs : Nat, 511 - g ≤ bc → 6 * (511 - g) ≤ bs → P 28 [some (.ref 1500), some (.ref 0), some (.ref 39), some (.ref 55), some (.ref 56), some (.int (nI (6 * (g + 1)))), none, none, none, none] [] (am_W ha hz a1 s1 t1 a2 s2 t2 al ma ms mt ol od) bc bs) : P 1375 [some (.ref 1500), some (.ref 0), some (.ref 39), some (.ref 55), some (.ref 56), some (.int (nI (6 * g))), none, none, none, none] [] (am_W ha hz a1 s1 t1 a2 s2 t2 al ma ms mt ol od) bc bs := by
  obtain ⟨T, M, D, S, hH, hh, hr, hWD, hS, hE, hD, hV, e8, e9, e10, et, eu, ev, ep, hB⟩ := lw_both hI
  obtain ⟨-, -, -, -, -, -, -, -, -, -, -, hal, hnar, -⟩ := id hI
  refine x_aload_n hP u27_1375 rfl ?_
  refine x_invokevirtual (bc' := bc) (bs' := bs) hP u27_1376 rfl rfl rfl rfl rfl ?_
  refine sp82 hH hWD hr (by omega) hS hE (fun b p t9 S9 hS9 hE9 => ?_)
  refine x_aload_n hP u27_1379 rfl ?_
  refine x_invokevirtual (bc' := bc) (bs' := bs) hP u27_1380 rfl rfl rfl rfl rfl ?_
  refine sp154 ?_
  refine x_icmp_eq hP u27_1383 (fun q1383 => ?_) (fun q1383 => ?_)
  · refine x_iinc_5 (v := 6) hP u27_1388 (by decide) (by exact rfl) ?_
    refine x_goto hP u27_1391 ?_
    rw [show nI (6 * g) + 6 = nI (6 * (g + 1)) from nI_add (6 * g) 6]
    refine hm _ _ _ _ _ _ _ (by repeat (first | exact am_le_nil | apply am_le_cons | apply am_le_none)) (hn _ _ _ _ _ _ _ _ _ _ _ _ _ _ (lw_I_15 hI) _ _ (by omega) (by omega))
  · exact absurd rfl q1383
