/-! THE LAW'S GROUPS: questions with arguments. (rows by gen/sp39.py) -/
theorem lw_cmp {x y : Int64} (h : x = y) : lg_cmp x y = 0 := by
  subst h
  unfold lg_cmp
  simp
set_option maxHeartbeats 4000000 in
theorem xw_749 {P : am_P} (hm : am_mono P) {L : Nat} {xs : Nat → Int32} (hP : xm_HP (some (L, xs)) 15 27 xl_K P) {ha : Nat → Nat → Int32} {hz : Int32} {a1 : Nat → Nat → Int32} {s1 : Nat → Int32} {t1 : UInt32} {a2 : Nat → Nat → Int32} {s2 : Nat → Int32} {t2 : UInt32} {al : Int32} {ma : Nat → Nat → Int32} {ms : Nat → Int32} {mt : UInt32} {ol : Nat → Int64} {od : Nat → UInt64} {g : Nat} (hg : 6 * g + 6 ≤ L) (hL : L ≤ 3072) (hI : lw_I g ha hz a1 s1 t1 al ma ms mt) {bc bs : Nat} (hbc : 512 - g ≤ bc) (hbs : 6 * (512 - g) ≤ bs) (hn : ∀ (ha : Nat → Nat → Int32) (hz : Int32) (a1 : Nat → Nat → Int32) (s1 : Nat → Int32) (t1 : UInt32) (a2 : Nat → Nat → Int32) (s2 : Nat → Int32) (t2 : UInt32) (al : Int32) (ma : Nat → Nat → Int32) (ms : Nat → Int32) (mt : UInt32) (ol : Nat → Int64) (od : Nat → UInt64), lw_I (g + 1) ha hz a1 s1 t1 al ma ms mt → ∀ bc bs : Nat, 511 - g ≤ bc → 6 * (511 - g) ≤ bs → P 28 [some (.ref 1500), some (.ref 0), some (.ref 39), some (.ref 55), some (.ref 56), some (.int (nI (6 * (g + 1)))), none, none, none, none] [] (am_W ha hz a1 s1 t1 a2 s2 t2 al ma ms mt ol od) bc bs) : P 749 [some (.ref 1500), some (.ref 0), some (.ref 39), some (.ref 55), some (.ref 56), some (.int (nI (6 * g))), none, none, none, none] [] (am_W ha hz a1 s1 t1 a2 s2 t2 al ma ms mt ol od) bc bs := by
  obtain ⟨T, M, D, S, hH, hh, hr, hWD, hS, hE, hD, hV, e8, e9, e10, et, eu, ev, ep, hB⟩ := lw_both hI
  obtain ⟨-, -, -, -, -, -, -, -, -, -, -, hal, hnar, -⟩ := id hI
  refine x_aload_n hP u27_749 rfl ?_
  refine x_aload_n hP u27_750 rfl ?_
  refine x_iload hP u27_751 rfl ?_
  refine x_iconst (v := 1) hP u27_753 (by decide) ?_
  refine x_iadd hP u27_754 ?_
  rw [show nI (6 * g) + 1 = nI (6 * g + 1) from nI_add (6 * g) 1]
  refine x_sld hP u27_755 (vp_in_nI (by omega) (by omega)) ?_
  rw [nI_clamp (by omega)]
  refine x_aload_n hP u27_756 rfl ?_
  refine x_callS (bc' := bc - 1) (bs' := bs - 6) hP u27_757 rfl rfl (by show bc = bc - 1 + 1; omega) (by show bs = bs - 6 + 6; omega) ?_
  refine xh20 (x := xs (6 * g + 1)) ?_ ?_
  · intro hk
    refine x_istore_6 hP u27_760 (by exact rfl) ?_
    refine x_aload_n hP u27_762 rfl ?_
    refine x_aload_n hP u27_763 rfl ?_
    refine x_iload hP u27_764 rfl ?_
    refine x_iconst (v := 1) hP u27_766 (by decide) ?_
    refine x_iadd hP u27_767 ?_
    rw [show nI (6 * g) + 1 = nI (6 * g + 1) from nI_add (6 * g) 1]
    refine x_sld hP u27_768 (vp_in_nI (by omega) (by omega)) ?_
    rw [nI_clamp (by omega)]
    refine x_invokevirtual (bc' := bc - 1) (bs' := bs - 6) hP u27_769 rfl rfl rfl rfl rfl ?_
    refine sp140 (x := xs (6 * g + 1)) (fun _ => ?_) (fun h => absurd (hk.symm.trans h) (by decide))
    refine x_istore_7 hP u27_772 (by exact rfl) ?_
    refine x_aload_n hP u27_774 rfl ?_
    refine x_invokevirtual (bc' := bc - 1) (bs' := bs - 6) hP u27_775 rfl rfl rfl rfl rfl ?_
    refine sp96 ?_
    refine x_iload hP u27_778 rfl ?_
    refine x_icmp_eq hP u27_780 (fun q780 => ?_) (fun q780 => ?_)
    · refine x_iload hP u27_785 rfl ?_
      refine x_if_ne hP u27_787 (fun q787 => ?_) (fun q787 => ?_)
      · exact absurd rfl q787
      · refine x_aload_n hP u27_790 rfl ?_
        refine x_iconst (v := 0) hP u27_791 (by decide) ?_
        refine x_laload hP u27_792 rfl (vp_in_nI (n := 0) (by decide) (by decide)) ?_
        refine x_iload hP u27_793 rfl ?_
        refine x_i2l hP u27_795 ?_
        refine x_lcmp hP u27_796 ?_
        refine x_if_eq hP u27_797 (fun q797 => ?_) (fun q797 => ?_)
        · refine x_goto hP u27_802 ?_
          refine x_iinc_5 (v := 6) hP u27_1388 (by decide) (by exact rfl) ?_
          refine x_goto hP u27_1391 ?_
          rw [show nI (6 * g) + 6 = nI (6 * (g + 1)) from nI_add (6 * g) 6]
          refine hm _ _ _ _ _ _ _ (by repeat (first | exact am_le_nil | apply am_le_cons | apply am_le_none)) (hn _ _ _ _ _ _ _ _ _ _ _ _ _ _ (lw_I_15 hI) _ _ (by omega) (by omega))
        · exact absurd (by
            obtain ⟨n, hn9, hx⟩ := mi_iw_nI (N := 7) rfl (by decide) hk
            refine lw_cmp ?_
            show (a1 2 (xs (6 * g + 1)).toNatClampNeg).toInt64 = _
            rw [hx, nI_clamp (by omega), ev n (by omega)]) q797
    · exact absurd rfl q780
  · intro hk
    refine x_istore_6 hP u27_760 (by exact rfl) ?_
    refine x_aload_n hP u27_762 rfl ?_
    refine x_aload_n hP u27_763 rfl ?_
    refine x_iload hP u27_764 rfl ?_
    refine x_iconst (v := 1) hP u27_766 (by decide) ?_
    refine x_iadd hP u27_767 ?_
    rw [show nI (6 * g) + 1 = nI (6 * g + 1) from nI_add (6 * g) 1]
    refine x_sld hP u27_768 (vp_in_nI (by omega) (by omega)) ?_
    rw [nI_clamp (by omega)]
    refine x_invokevirtual (bc' := bc - 1) (bs' := bs - 6) hP u27_769 rfl rfl rfl rfl rfl ?_
    refine sp140 (x := xs (6 * g + 1)) (fun h => absurd (hk.symm.trans h) (by decide)) (fun _ => ?_)
    refine x_istore_7 hP u27_772 (by exact rfl) ?_
    refine x_aload_n hP u27_774 rfl ?_
    refine x_invokevirtual (bc' := bc - 1) (bs' := bs - 6) hP u27_775 rfl rfl rfl rfl rfl ?_
    refine sp96 ?_
    refine x_iload hP u27_778 rfl ?_
    refine x_icmp_eq hP u27_780 (fun q780 => ?_) (fun q780 => ?_)
    · refine x_iload hP u27_785 rfl ?_
      refine x_if_ne hP u27_787 (fun q787 => ?_) (fun q787 => ?_)
      · refine x_goto hP u27_802 ?_
        refine x_iinc_5 (v := 6) hP u27_1388 (by decide) (by exact rfl) ?_
        refine x_goto hP u27_1391 ?_
        rw [show nI (6 * g) + 6 = nI (6 * (g + 1)) from nI_add (6 * g) 6]
        refine hm _ _ _ _ _ _ _ (by repeat (first | exact am_le_nil | apply am_le_cons | apply am_le_none)) (hn _ _ _ _ _ _ _ _ _ _ _ _ _ _ (lw_I_15 hI) _ _ (by omega) (by omega))
      · exact absurd q787 (by decide)
    · exact absurd rfl q780
set_option maxHeartbeats 4000000 in
theorem xw_805 {P : am_P} (hm : am_mono P) {L : Nat} {xs : Nat → Int32} (hP : xm_HP (some (L, xs)) 15 27 xl_K P) {ha : Nat → Nat → Int32} {hz : Int32} {a1 : Nat → Nat → Int32} {s1 : Nat → Int32} {t1 : UInt32} {a2 : Nat → Nat → Int32} {s2 : Nat → Int32} {t2 : UInt32} {al : Int32} {ma : Nat → Nat → Int32} {ms : Nat → Int32} {mt : UInt32} {ol : Nat → Int64} {od : Nat → UInt64} {g : Nat} (hg : 6 * g + 6 ≤ L) (hL : L ≤ 3072) (hI : lw_I g ha hz a1 s1 t1 al ma ms mt) {bc bs : Nat} (hbc : 512 - g ≤ bc) (hbs : 6 * (512 - g) ≤ bs) (hn : ∀ (ha : Nat → Nat → Int32) (hz : Int32) (a1 : Nat → Nat → Int32) (s1 : Nat → Int32) (t1 : UInt32) (a2 : Nat → Nat → Int32) (s2 : Nat → Int32) (t2 : UInt32) (al : Int32) (ma : Nat → Nat → Int32) (ms : Nat → Int32) (mt : UInt32) (ol : Nat → Int64) (od : Nat → UInt64), lw_I (g + 1) ha hz a1 s1 t1 al ma ms mt → ∀ bc bs : Nat, 511 - g ≤ bc → 6 * (511 - g) ≤ bs → P 28 [some (.ref 1500), some (.ref 0), some (.ref 39), some (.ref 55), some (.ref 56), some (.int (nI (6 * (g + 1)))), none, none, none, none] [] (am_W ha hz a1 s1 t1 a2 s2 t2 al ma ms mt ol od) bc bs) : P 805 [some (.ref 1500), some (.ref 0), some (.ref 39), some (.ref 55), some (.ref 56), some (.int (nI (6 * g))), none, none, none, none] [] (am_W ha hz a1 s1 t1 a2 s2 t2 al ma ms mt ol od) bc bs := by
  obtain ⟨T, M, D, S, hH, hh, hr, hWD, hS, hE, hD, hV, e8, e9, e10, et, eu, ev, ep, hB⟩ := lw_both hI
  obtain ⟨-, -, -, -, -, -, -, -, -, -, -, hal, hnar, -⟩ := id hI
  refine x_aload_n hP u27_805 rfl ?_
  refine x_aload_n hP u27_806 rfl ?_
  refine x_iload hP u27_807 rfl ?_
  refine x_iconst (v := 1) hP u27_809 (by decide) ?_
  refine x_iadd hP u27_810 ?_
  rw [show nI (6 * g) + 1 = nI (6 * g + 1) from nI_add (6 * g) 1]
  refine x_sld hP u27_811 (vp_in_nI (by omega) (by omega)) ?_
  rw [nI_clamp (by omega)]
  refine x_aload_n hP u27_812 rfl ?_
  refine x_callS (bc' := bc - 1) (bs' := bs - 6) hP u27_813 rfl rfl (by show bc = bc - 1 + 1; omega) (by show bs = bs - 6 + 6; omega) ?_
  refine xh21 (x := xs (6 * g + 1)) ?_ ?_
  · intro hk
    refine x_istore_6 hP u27_816 (by exact rfl) ?_
    refine x_aload_n hP u27_818 rfl ?_
    refine x_aload_n hP u27_819 rfl ?_
    refine x_iload hP u27_820 rfl ?_
    refine x_iconst (v := 1) hP u27_822 (by decide) ?_
    refine x_iadd hP u27_823 ?_
    rw [show nI (6 * g) + 1 = nI (6 * g + 1) from nI_add (6 * g) 1]
    refine x_sld hP u27_824 (vp_in_nI (by omega) (by omega)) ?_
    rw [nI_clamp (by omega)]
    refine x_invokevirtual (bc' := bc - 1) (bs' := bs - 6) hP u27_825 rfl rfl rfl rfl rfl ?_
    refine sp141 (x := xs (6 * g + 1)) (fun _ => ?_) (fun h => absurd (hk.symm.trans h) (by decide))
    refine x_istore_7 hP u27_828 (by exact rfl) ?_
    refine x_aload_n hP u27_830 rfl ?_
    refine x_invokevirtual (bc' := bc - 1) (bs' := bs - 6) hP u27_831 rfl rfl rfl rfl rfl ?_
    refine sp96 ?_
    refine x_iload hP u27_834 rfl ?_
    refine x_icmp_eq hP u27_836 (fun q836 => ?_) (fun q836 => ?_)
    · refine x_iload hP u27_841 rfl ?_
      refine x_if_ne hP u27_843 (fun q843 => ?_) (fun q843 => ?_)
      · exact absurd rfl q843
      · refine x_aload_n hP u27_846 rfl ?_
        refine x_iconst (v := 0) hP u27_847 (by decide) ?_
        refine x_laload hP u27_848 rfl (vp_in_nI (n := 0) (by decide) (by decide)) ?_
        refine x_iload hP u27_849 rfl ?_
        refine x_i2l hP u27_851 ?_
        refine x_lcmp hP u27_852 ?_
        refine x_if_eq hP u27_853 (fun q853 => ?_) (fun q853 => ?_)
        · refine x_goto hP u27_858 ?_
          refine x_iinc_5 (v := 6) hP u27_1388 (by decide) (by exact rfl) ?_
          refine x_goto hP u27_1391 ?_
          rw [show nI (6 * g) + 6 = nI (6 * (g + 1)) from nI_add (6 * g) 6]
          refine hm _ _ _ _ _ _ _ (by repeat (first | exact am_le_nil | apply am_le_cons | apply am_le_none)) (hn _ _ _ _ _ _ _ _ _ _ _ _ _ _ (lw_I_15 hI) _ _ (by omega) (by omega))
        · exact absurd (by
            obtain ⟨n, hn9, hx⟩ := mi_iw_nI (N := 2) rfl (by decide) hk
            refine lw_cmp ?_
            show (a1 3 (xs (6 * g + 1)).toNatClampNeg).toInt64 = _
            rw [hx, nI_clamp (by omega), ep n (by omega)]) q853
    · exact absurd rfl q836
  · intro hk
    refine x_istore_6 hP u27_816 (by exact rfl) ?_
    refine x_aload_n hP u27_818 rfl ?_
    refine x_aload_n hP u27_819 rfl ?_
    refine x_iload hP u27_820 rfl ?_
    refine x_iconst (v := 1) hP u27_822 (by decide) ?_
    refine x_iadd hP u27_823 ?_
    rw [show nI (6 * g) + 1 = nI (6 * g + 1) from nI_add (6 * g) 1]
    refine x_sld hP u27_824 (vp_in_nI (by omega) (by omega)) ?_
    rw [nI_clamp (by omega)]
    refine x_invokevirtual (bc' := bc - 1) (bs' := bs - 6) hP u27_825 rfl rfl rfl rfl rfl ?_
    refine sp141 (x := xs (6 * g + 1)) (fun h => absurd (hk.symm.trans h) (by decide)) (fun _ => ?_)
    refine x_istore_7 hP u27_828 (by exact rfl) ?_
    refine x_aload_n hP u27_830 rfl ?_
    refine x_invokevirtual (bc' := bc - 1) (bs' := bs - 6) hP u27_831 rfl rfl rfl rfl rfl ?_
    refine sp96 ?_
    refine x_iload hP u27_834 rfl ?_
    refine x_icmp_eq hP u27_836 (fun q836 => ?_) (fun q836 => ?_)
    · refine x_iload hP u27_841 rfl ?_
      refine x_if_ne hP u27_843 (fun q843 => ?_) (fun q843 => ?_)
      · refine x_goto hP u27_858 ?_
        refine x_iinc_5 (v := 6) hP u27_1388 (by decide) (by exact rfl) ?_
        refine x_goto hP u27_1391 ?_
        rw [show nI (6 * g) + 6 = nI (6 * (g + 1)) from nI_add (6 * g) 6]
        refine hm _ _ _ _ _ _ _ (by repeat (first | exact am_le_nil | apply am_le_cons | apply am_le_none)) (hn _ _ _ _ _ _ _ _ _ _ _ _ _ _ (lw_I_15 hI) _ _ (by omega) (by omega))
      · exact absurd q843 (by decide)
    · exact absurd rfl q836
