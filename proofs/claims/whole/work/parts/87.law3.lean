/-! THE LAW'S GROUPS: used, has, hasAnew, height. (rows by gen/sp40.py) -/
theorem lw_slot {A B : Nat} (hA : A < 3) (hB : B < 4) : mi_slot (nI A) (nI B) = true := by
  show (mi_iw (nI A) 0 (nI 2) && mi_iw (nI B) 0 (nI 3)) = true
  rw [mi_iw_at (by decide) (by omega), mi_iw_at (by decide) (by omega)]
  rfl
theorem lw_cell {X Y Z : Nat} (hX : X < 16) (hY : Y < 12) (hZ : Z < 6) : mi_cell (nI X) (nI Y) (nI Z) = true := by
  show (mi_iw (nI X) 0 (nI 15) && mi_iw (nI Y) 0 (nI 11) && mi_iw (nI Z) 0 (nI 5)) = true
  rw [mi_iw_at (by decide) (by omega), mi_iw_at (by decide) (by omega), mi_iw_at (by decide) (by omega)]
  rfl
set_option maxHeartbeats 4000000 in
theorem xw_874 {P : am_P} (hm : am_mono P) {L : Nat} {xs : Nat → Int32} (hP : xm_HP (some (L, xs)) 15 27 xl_K P) {ha : Nat → Nat → Int32} {hz : Int32} {a1 : Nat → Nat → Int32} {s1 : Nat → Int32} {t1 : UInt32} {a2 : Nat → Nat → Int32} {s2 : Nat → Int32} {t2 : UInt32} {al : Int32} {ma : Nat → Nat → Int32} {ms : Nat → Int32} {mt : UInt32} {ol : Nat → Int64} {od : Nat → UInt64} {g : Nat} (hg : 6 * g + 6 ≤ L) (hL : L ≤ 3072) (hI : lw_I g ha hz a1 s1 t1 al ma ms mt) {bc bs : Nat} (hbc : 512 - g ≤ bc) (hbs : 6 * (512 - g) ≤ bs) (hn : ∀ (ha : Nat → Nat → Int32) (hz : Int32) (a1 : Nat → Nat → Int32) (s1 : Nat → Int32) (t1 : UInt32) (a2 : Nat → Nat → Int32) (s2 : Nat → Int32) (t2 : UInt32) (al : Int32) (ma : Nat → Nat → Int32) (ms : Nat → Int32) (mt : UInt32) (ol : Nat → Int64) (od : Nat → UInt64), lw_I (g + 1) ha hz a1 s1 t1 al ma ms mt → ∀ bc bs : Nat, 511 - g ≤ bc → 6 * (511 - g) ≤ bs → P 28 [some (.ref 1500), some (.ref 0), some (.ref 39), some (.ref 55), some (.ref 56), some (.int (nI (6 * (g + 1)))), none, none, none, none] [] (am_W ha hz a1 s1 t1 a2 s2 t2 al ma ms mt ol od) bc bs) : P 874 [some (.ref 1500), some (.ref 0), some (.ref 39), some (.ref 55), some (.ref 56), some (.int (nI (6 * g))), none, none, none, none] [] (am_W ha hz a1 s1 t1 a2 s2 t2 al ma ms mt ol od) bc bs := by
  obtain ⟨T, M, D, S, hH, hh, hr, hWD, hS, hE, hD, hV, e8, e9, e10, et, eu, ev, ep, hB⟩ := lw_both hI
  obtain ⟨-, -, -, -, -, -, -, -, -, -, -, hal, hnar, -⟩ := id hI
  refine x_aload_n hP u27_874 rfl ?_
  refine x_aload_n hP u27_875 rfl ?_
  refine x_iload hP u27_876 rfl ?_
  refine x_iconst (v := 1) hP u27_878 (by decide) ?_
  refine x_iadd hP u27_879 ?_
  rw [show nI (6 * g) + 1 = nI (6 * g + 1) from nI_add (6 * g) 1]
  refine x_sld hP u27_880 (vp_in_nI (by omega) (by omega)) ?_
  rw [nI_clamp (by omega)]
  refine x_aload_n hP u27_881 rfl ?_
  refine x_iload hP u27_882 rfl ?_
  refine x_iconst (v := 2) hP u27_884 (by decide) ?_
  refine x_iadd hP u27_885 ?_
  rw [show nI (6 * g) + 2 = nI (6 * g + 2) from nI_add (6 * g) 2]
  refine x_sld hP u27_886 (vp_in_nI (by omega) (by omega)) ?_
  rw [nI_clamp (by omega)]
  refine x_aload_n hP u27_887 rfl ?_
  refine x_callS (bc' := bc - 1) (bs' := bs - 6) hP u27_888 rfl rfl (by show bc = bc - 1 + 1; omega) (by show bs = bs - 6 + 6; omega) ?_
  refine xh22 (x := xs (6 * g + 1)) (y := xs (6 * g + 2)) ?_ ?_ ?_
  · intro A B hA hB9 hx hy h0
    refine x_istore_6 hP u27_891 (by exact rfl) ?_
    refine x_aload_n hP u27_893 rfl ?_
    refine x_aload_n hP u27_894 rfl ?_
    refine x_iload hP u27_895 rfl ?_
    refine x_iconst (v := 1) hP u27_897 (by decide) ?_
    refine x_iadd hP u27_898 ?_
    rw [show nI (6 * g) + 1 = nI (6 * g + 1) from nI_add (6 * g) 1]
    refine x_sld hP u27_899 (vp_in_nI (by omega) (by omega)) ?_
    rw [nI_clamp (by omega)]
    refine x_aload_n hP u27_900 rfl ?_
    refine x_iload hP u27_901 rfl ?_
    refine x_iconst (v := 2) hP u27_903 (by decide) ?_
    refine x_iadd hP u27_904 ?_
    rw [show nI (6 * g) + 2 = nI (6 * g + 2) from nI_add (6 * g) 2]
    refine x_sld hP u27_905 (vp_in_nI (by omega) (by omega)) ?_
    rw [nI_clamp (by omega)]
    refine x_invokevirtual (bc' := bc - 1) (bs' := bs - 6) hP u27_906 rfl rfl rfl rfl rfl ?_
    have h45 := sh_45 (c := 4 * A + B) (fun c hc => (hh.2.2.1 c hc).1) hH.2.2.2.1 (by omega)
    refine sp143 (x := xs (6 * g + 1)) (y := xs (6 * g + 2)) (fun A9 B9 hA9 hB8 hx9 hy9 h9 => ?_) (fun h => absurd ((show mi_slot (xs (6 * g + 1)) (xs (6 * g + 2)) = true by rw [hx, hy]; exact lw_slot hA hB9).symm.trans h) (by decide)) (fun A9 B9 hA9 hB8 hx9 hy9 h9 => ?_)
    rotate_left
    · obtain rfl : A9 = A := (nI_inj (by omega) (by omega)).mp (hx9.symm.trans hx)
      obtain rfl : B9 = B := (nI_inj (by omega) (by omega)).mp (hy9.symm.trans hy)
      exact absurd (h45.mp h9) h0
    obtain rfl : A9 = A := (nI_inj (by omega) (by omega)).mp (hx9.symm.trans hx)
    obtain rfl : B9 = B := (nI_inj (by omega) (by omega)).mp (hy9.symm.trans hy)
    refine x_istore_7 hP u27_909 (by exact rfl) ?_
    refine x_aload_n hP u27_911 rfl ?_
    refine x_invokevirtual (bc' := bc - 1) (bs' := bs - 6) hP u27_912 rfl rfl rfl rfl rfl ?_
    refine sp96 ?_
    refine x_iload hP u27_915 rfl ?_
    refine x_icmp_eq hP u27_917 (fun q917 => ?_) (fun q917 => ?_)
    · refine x_iload hP u27_922 rfl ?_
      refine x_if_ne hP u27_924 (fun q924 => ?_) (fun q924 => ?_)
      · exact absurd rfl q924
      · refine x_aload_n hP u27_927 rfl ?_
        refine x_iconst (v := 0) hP u27_928 (by decide) ?_
        refine x_laload hP u27_929 rfl (vp_in_nI (n := 0) (by decide) (by decide)) ?_
        refine x_iload hP u27_930 rfl ?_
        refine x_i2l hP u27_932 ?_
        refine x_lcmp hP u27_933 ?_
        refine x_if_eq hP u27_934 (fun q934 => ?_) (fun q934 => ?_)
        · refine x_goto hP u27_939 ?_
          refine x_iinc_5 (v := 6) hP u27_1388 (by decide) (by exact rfl) ?_
          refine x_goto hP u27_1391 ?_
          rw [show nI (6 * g) + 6 = nI (6 * (g + 1)) from nI_add (6 * g) 6]
          refine hm _ _ _ _ _ _ _ (by repeat (first | exact am_le_nil | apply am_le_cons | apply am_le_none)) (hn _ _ _ _ _ _ _ _ _ _ _ _ _ _ (lw_I_15 hI) _ _ (by omega) (by omega))
        · exact absurd (lw_cmp (by
            show (a1 1 (4 * A9 + B9)).toInt64 = _
            rw [eu _ (by omega)])) q934
    · exact absurd rfl q917
  · intro hk
    refine x_istore_6 hP u27_891 (by exact rfl) ?_
    refine x_aload_n hP u27_893 rfl ?_
    refine x_aload_n hP u27_894 rfl ?_
    refine x_iload hP u27_895 rfl ?_
    refine x_iconst (v := 1) hP u27_897 (by decide) ?_
    refine x_iadd hP u27_898 ?_
    rw [show nI (6 * g) + 1 = nI (6 * g + 1) from nI_add (6 * g) 1]
    refine x_sld hP u27_899 (vp_in_nI (by omega) (by omega)) ?_
    rw [nI_clamp (by omega)]
    refine x_aload_n hP u27_900 rfl ?_
    refine x_iload hP u27_901 rfl ?_
    refine x_iconst (v := 2) hP u27_903 (by decide) ?_
    refine x_iadd hP u27_904 ?_
    rw [show nI (6 * g) + 2 = nI (6 * g + 2) from nI_add (6 * g) 2]
    refine x_sld hP u27_905 (vp_in_nI (by omega) (by omega)) ?_
    rw [nI_clamp (by omega)]
    refine x_invokevirtual (bc' := bc - 1) (bs' := bs - 6) hP u27_906 rfl rfl rfl rfl rfl ?_
    refine sp143 (x := xs (6 * g + 1)) (y := xs (6 * g + 2)) (fun A9 B9 hA9 hB8 hx9 hy9 h9 => ?_) (fun _ => ?_) (fun A9 B9 hA9 hB8 hx9 hy9 h9 => ?_)
    · exact absurd ((show mi_slot (xs (6 * g + 1)) (xs (6 * g + 2)) = true by rw [hx9, hy9]; exact lw_slot hA9 hB8).symm.trans hk) (by decide)
    rotate_left
    · exact absurd ((show mi_slot (xs (6 * g + 1)) (xs (6 * g + 2)) = true by rw [hx9, hy9]; exact lw_slot hA9 hB8).symm.trans hk) (by decide)
    refine x_istore_7 hP u27_909 (by exact rfl) ?_
    refine x_aload_n hP u27_911 rfl ?_
    refine x_invokevirtual (bc' := bc - 1) (bs' := bs - 6) hP u27_912 rfl rfl rfl rfl rfl ?_
    refine sp96 ?_
    refine x_iload hP u27_915 rfl ?_
    refine x_icmp_eq hP u27_917 (fun q917 => ?_) (fun q917 => ?_)
    · refine x_iload hP u27_922 rfl ?_
      refine x_if_ne hP u27_924 (fun q924 => ?_) (fun q924 => ?_)
      · refine x_goto hP u27_939 ?_
        refine x_iinc_5 (v := 6) hP u27_1388 (by decide) (by exact rfl) ?_
        refine x_goto hP u27_1391 ?_
        rw [show nI (6 * g) + 6 = nI (6 * (g + 1)) from nI_add (6 * g) 6]
        refine hm _ _ _ _ _ _ _ (by repeat (first | exact am_le_nil | apply am_le_cons | apply am_le_none)) (hn _ _ _ _ _ _ _ _ _ _ _ _ _ _ (lw_I_15 hI) _ _ (by omega) (by omega))
      · exact absurd q924 (by decide)
    · exact absurd rfl q917
  · intro A B hA hB9 hx hy h0
    refine x_istore_6 hP u27_891 (by exact rfl) ?_
    refine x_aload_n hP u27_893 rfl ?_
    refine x_aload_n hP u27_894 rfl ?_
    refine x_iload hP u27_895 rfl ?_
    refine x_iconst (v := 1) hP u27_897 (by decide) ?_
    refine x_iadd hP u27_898 ?_
    rw [show nI (6 * g) + 1 = nI (6 * g + 1) from nI_add (6 * g) 1]
    refine x_sld hP u27_899 (vp_in_nI (by omega) (by omega)) ?_
    rw [nI_clamp (by omega)]
    refine x_aload_n hP u27_900 rfl ?_
    refine x_iload hP u27_901 rfl ?_
    refine x_iconst (v := 2) hP u27_903 (by decide) ?_
    refine x_iadd hP u27_904 ?_
    rw [show nI (6 * g) + 2 = nI (6 * g + 2) from nI_add (6 * g) 2]
    refine x_sld hP u27_905 (vp_in_nI (by omega) (by omega)) ?_
    rw [nI_clamp (by omega)]
    refine x_invokevirtual (bc' := bc - 1) (bs' := bs - 6) hP u27_906 rfl rfl rfl rfl rfl ?_
    have h45 := sh_45 (c := 4 * A + B) (fun c hc => (hh.2.2.1 c hc).1) hH.2.2.2.1 (by omega)
    refine sp143 (x := xs (6 * g + 1)) (y := xs (6 * g + 2)) (fun A9 B9 hA9 hB8 hx9 hy9 h9 => ?_) (fun h => absurd ((show mi_slot (xs (6 * g + 1)) (xs (6 * g + 2)) = true by rw [hx, hy]; exact lw_slot hA hB9).symm.trans h) (by decide)) (fun A9 B9 hA9 hB8 hx9 hy9 h9 => ?_)
    · obtain rfl : A9 = A := (nI_inj (by omega) (by omega)).mp (hx9.symm.trans hx)
      obtain rfl : B9 = B := (nI_inj (by omega) (by omega)).mp (hy9.symm.trans hy)
      exact absurd (h45.mpr h0) h9
    refine x_istore_7 hP u27_909 (by exact rfl) ?_
    refine x_aload_n hP u27_911 rfl ?_
    refine x_invokevirtual (bc' := bc - 1) (bs' := bs - 6) hP u27_912 rfl rfl rfl rfl rfl ?_
    refine sp96 ?_
    refine x_iload hP u27_915 rfl ?_
    refine x_icmp_eq hP u27_917 (fun q917 => ?_) (fun q917 => ?_)
    · refine x_iload hP u27_922 rfl ?_
      refine x_if_ne hP u27_924 (fun q924 => ?_) (fun q924 => ?_)
      · refine x_goto hP u27_939 ?_
        refine x_iinc_5 (v := 6) hP u27_1388 (by decide) (by exact rfl) ?_
        refine x_goto hP u27_1391 ?_
        rw [show nI (6 * g) + 6 = nI (6 * (g + 1)) from nI_add (6 * g) 6]
        refine hm _ _ _ _ _ _ _ (by repeat (first | exact am_le_nil | apply am_le_cons | apply am_le_none)) (hn _ _ _ _ _ _ _ _ _ _ _ _ _ _ (lw_I_15 hI) _ _ (by omega) (by omega))
      · exact absurd q924 (by decide)
    · exact absurd rfl q917
set_option maxHeartbeats 4000000 in
theorem xw_942 {P : am_P} (hm : am_mono P) {L : Nat} {xs : Nat → Int32} (hP : xm_HP (some (L, xs)) 15 27 xl_K P) {ha : Nat → Nat → Int32} {hz : Int32} {a1 : Nat → Nat → Int32} {s1 : Nat → Int32} {t1 : UInt32} {a2 : Nat → Nat → Int32} {s2 : Nat → Int32} {t2 : UInt32} {al : Int32} {ma : Nat → Nat → Int32} {ms : Nat → Int32} {mt : UInt32} {ol : Nat → Int64} {od : Nat → UInt64} {g : Nat} (hg : 6 * g + 6 ≤ L) (hL : L ≤ 3072) (hI : lw_I g ha hz a1 s1 t1 al ma ms mt) {bc bs : Nat} (hbc : 512 - g ≤ bc) (hbs : 6 * (512 - g) ≤ bs) (hn : ∀ (ha : Nat → Nat → Int32) (hz : Int32) (a1 : Nat → Nat → Int32) (s1 : Nat → Int32) (t1 : UInt32) (a2 : Nat → Nat → Int32) (s2 : Nat → Int32) (t2 : UInt32) (al : Int32) (ma : Nat → Nat → Int32) (ms : Nat → Int32) (mt : UInt32) (ol : Nat → Int64) (od : Nat → UInt64), lw_I (g + 1) ha hz a1 s1 t1 al ma ms mt → ∀ bc bs : Nat, 511 - g ≤ bc → 6 * (511 - g) ≤ bs → P 28 [some (.ref 1500), some (.ref 0), some (.ref 39), some (.ref 55), some (.ref 56), some (.int (nI (6 * (g + 1)))), none, none, none, none] [] (am_W ha hz a1 s1 t1 a2 s2 t2 al ma ms mt ol od) bc bs) : P 942 [some (.ref 1500), some (.ref 0), some (.ref 39), some (.ref 55), some (.ref 56), some (.int (nI (6 * g))), none, none, none, none] [] (am_W ha hz a1 s1 t1 a2 s2 t2 al ma ms mt ol od) bc bs := by
  obtain ⟨T, M, D, S, hH, hh, hr, hWD, hS, hE, hD, hV, e8, e9, e10, et, eu, ev, ep, hB⟩ := lw_both hI
  obtain ⟨-, -, -, -, -, -, -, -, -, -, -, hal, hnar, -⟩ := id hI
  refine x_aload_n hP u27_942 rfl ?_
  refine x_aload_n hP u27_943 rfl ?_
  refine x_iload hP u27_944 rfl ?_
  refine x_iconst (v := 1) hP u27_946 (by decide) ?_
  refine x_iadd hP u27_947 ?_
  rw [show nI (6 * g) + 1 = nI (6 * g + 1) from nI_add (6 * g) 1]
  refine x_sld hP u27_948 (vp_in_nI (by omega) (by omega)) ?_
  rw [nI_clamp (by omega)]
  refine x_aload_n hP u27_949 rfl ?_
  refine x_iload hP u27_950 rfl ?_
  refine x_iconst (v := 2) hP u27_952 (by decide) ?_
  refine x_iadd hP u27_953 ?_
  rw [show nI (6 * g) + 2 = nI (6 * g + 2) from nI_add (6 * g) 2]
  refine x_sld hP u27_954 (vp_in_nI (by omega) (by omega)) ?_
  rw [nI_clamp (by omega)]
  refine x_aload_n hP u27_955 rfl ?_
  refine x_iload hP u27_956 rfl ?_
  refine x_iconst (v := 3) hP u27_958 (by decide) ?_
  refine x_iadd hP u27_959 ?_
  rw [show nI (6 * g) + 3 = nI (6 * g + 3) from nI_add (6 * g) 3]
  refine x_sld hP u27_960 (vp_in_nI (by omega) (by omega)) ?_
  rw [nI_clamp (by omega)]
  refine x_aload_n hP u27_961 rfl ?_
  refine x_callS (bc' := bc - 1) (bs' := bs - 6) hP u27_962 rfl rfl (by show bc = bc - 1 + 1; omega) (by show bs = bs - 6 + 6; omega) ?_
  refine xh23 hS (x := xs (6 * g + 1)) (y := xs (6 * g + 2)) (z := xs (6 * g + 3)) ?_ ?_
  · intro X Y Z hX hY hZ hx hy hzz
    refine x_istore_6 hP u27_965 (by exact rfl) ?_
    refine x_aload_n hP u27_967 rfl ?_
    refine x_aload_n hP u27_968 rfl ?_
    refine x_iload hP u27_969 rfl ?_
    refine x_iconst (v := 1) hP u27_971 (by decide) ?_
    refine x_iadd hP u27_972 ?_
    rw [show nI (6 * g) + 1 = nI (6 * g + 1) from nI_add (6 * g) 1]
    refine x_sld hP u27_973 (vp_in_nI (by omega) (by omega)) ?_
    rw [nI_clamp (by omega)]
    refine x_aload_n hP u27_974 rfl ?_
    refine x_iload hP u27_975 rfl ?_
    refine x_iconst (v := 2) hP u27_977 (by decide) ?_
    refine x_iadd hP u27_978 ?_
    rw [show nI (6 * g) + 2 = nI (6 * g + 2) from nI_add (6 * g) 2]
    refine x_sld hP u27_979 (vp_in_nI (by omega) (by omega)) ?_
    rw [nI_clamp (by omega)]
    refine x_aload_n hP u27_980 rfl ?_
    refine x_iload hP u27_981 rfl ?_
    refine x_iconst (v := 3) hP u27_983 (by decide) ?_
    refine x_iadd hP u27_984 ?_
    rw [show nI (6 * g) + 3 = nI (6 * g + 3) from nI_add (6 * g) 3]
    refine x_sld hP u27_985 (vp_in_nI (by omega) (by omega)) ?_
    rw [nI_clamp (by omega)]
    refine x_invokevirtual (bc' := bc - 1) (bs' := bs - 6) hP u27_986 rfl rfl rfl rfl rfl ?_
    refine sp144 (S := S) hB (x := xs (6 * g + 1)) (y := xs (6 * g + 2)) (z := xs (6 * g + 3)) (fun X9 Y9 Z9 hX9 hY9 hZ9 hx9 hy9 hz9 => ?_) (fun h => absurd ((show mi_cell (xs (6 * g + 1)) (xs (6 * g + 2)) (xs (6 * g + 3)) = true by rw [hx, hy, hzz]; exact lw_cell hX hY hZ).symm.trans h) (by decide))
    obtain rfl : X = X9 := (nI_inj (by omega) (by omega)).mp (hx.symm.trans hx9)
    obtain rfl : Y = Y9 := (nI_inj (by omega) (by omega)).mp (hy.symm.trans hy9)
    obtain rfl : Z = Z9 := (nI_inj (by omega) (by omega)).mp (hzz.symm.trans hz9)
    refine x_istore_7 hP u27_989 (by exact rfl) ?_
    refine x_aload_n hP u27_991 rfl ?_
    refine x_invokevirtual (bc' := bc - 1) (bs' := bs - 6) hP u27_992 rfl rfl rfl rfl rfl ?_
    refine sp96 ?_
    refine x_iload hP u27_995 rfl ?_
    refine x_icmp_eq hP u27_997 (fun q997 => ?_) (fun q997 => ?_)
    · refine x_iload hP u27_1002 rfl ?_
      refine x_if_ne hP u27_1004 (fun q1004 => ?_) (fun q1004 => ?_)
      · exact absurd rfl q1004
      · refine x_aload_n hP u27_1007 rfl ?_
        refine x_iconst (v := 0) hP u27_1008 (by decide) ?_
        refine x_laload hP u27_1009 rfl (vp_in_nI (n := 0) (by decide) (by decide)) ?_
        refine x_iload hP u27_1010 rfl ?_
        refine x_zeq hP u27_1012 (fun q1012 => ?_) (fun q1012 => ?_)
        · refine x_lconst (v := 0) hP u27_1019 (by decide) ?_
          refine x_lcmp hP u27_1020 ?_
          refine x_if_eq hP u27_1021 (fun q1021 => ?_) (fun q1021 => ?_)
          · refine x_goto hP u27_1026 ?_
            refine x_iinc_5 (v := 6) hP u27_1388 (by decide) (by exact rfl) ?_
            refine x_goto hP u27_1391 ?_
            rw [show nI (6 * g) + 6 = nI (6 * (g + 1)) from nI_add (6 * g) 6]
            refine hm _ _ _ _ _ _ _ (by repeat (first | exact am_le_nil | apply am_le_cons | apply am_le_none)) (hn _ _ _ _ _ _ _ _ _ _ _ _ _ _ (lw_I_15 hI) _ _ (by omega) (by omega))
          · exact absurd (lw_cmp (by
              show cond (S (X + 16 * Y + 192 * Z)) (1 : Int64) 0 = 0
              rw [q1012]
              rfl)) q1021
        · refine x_lconst (v := 1) hP u27_1015 (by decide) ?_
          refine x_goto hP u27_1016 ?_
          refine x_lcmp hP u27_1020 ?_
          refine x_if_eq hP u27_1021 (fun q1021 => ?_) (fun q1021 => ?_)
          · refine x_goto hP u27_1026 ?_
            refine x_iinc_5 (v := 6) hP u27_1388 (by decide) (by exact rfl) ?_
            refine x_goto hP u27_1391 ?_
            rw [show nI (6 * g) + 6 = nI (6 * (g + 1)) from nI_add (6 * g) 6]
            refine hm _ _ _ _ _ _ _ (by repeat (first | exact am_le_nil | apply am_le_cons | apply am_le_none)) (hn _ _ _ _ _ _ _ _ _ _ _ _ _ _ (lw_I_15 hI) _ _ (by omega) (by omega))
          · exact absurd (lw_cmp (by
              show cond (S (X + 16 * Y + 192 * Z)) (1 : Int64) 0 = 1
              rw [q1012]
              rfl)) q1021
    · exact absurd rfl q997
  · intro hk
    refine x_istore_6 hP u27_965 (by exact rfl) ?_
    refine x_aload_n hP u27_967 rfl ?_
    refine x_aload_n hP u27_968 rfl ?_
    refine x_iload hP u27_969 rfl ?_
    refine x_iconst (v := 1) hP u27_971 (by decide) ?_
    refine x_iadd hP u27_972 ?_
    rw [show nI (6 * g) + 1 = nI (6 * g + 1) from nI_add (6 * g) 1]
    refine x_sld hP u27_973 (vp_in_nI (by omega) (by omega)) ?_
    rw [nI_clamp (by omega)]
    refine x_aload_n hP u27_974 rfl ?_
    refine x_iload hP u27_975 rfl ?_
    refine x_iconst (v := 2) hP u27_977 (by decide) ?_
    refine x_iadd hP u27_978 ?_
    rw [show nI (6 * g) + 2 = nI (6 * g + 2) from nI_add (6 * g) 2]
    refine x_sld hP u27_979 (vp_in_nI (by omega) (by omega)) ?_
    rw [nI_clamp (by omega)]
    refine x_aload_n hP u27_980 rfl ?_
    refine x_iload hP u27_981 rfl ?_
    refine x_iconst (v := 3) hP u27_983 (by decide) ?_
    refine x_iadd hP u27_984 ?_
    rw [show nI (6 * g) + 3 = nI (6 * g + 3) from nI_add (6 * g) 3]
    refine x_sld hP u27_985 (vp_in_nI (by omega) (by omega)) ?_
    rw [nI_clamp (by omega)]
    refine x_invokevirtual (bc' := bc - 1) (bs' := bs - 6) hP u27_986 rfl rfl rfl rfl rfl ?_
    refine sp144 (S := S) hB (x := xs (6 * g + 1)) (y := xs (6 * g + 2)) (z := xs (6 * g + 3)) (fun X9 Y9 Z9 hX9 hY9 hZ9 hx9 hy9 hz9 => absurd ((show mi_cell (xs (6 * g + 1)) (xs (6 * g + 2)) (xs (6 * g + 3)) = true by rw [hx9, hy9, hz9]; exact lw_cell hX9 hY9 hZ9).symm.trans hk) (by decide)) (fun _ => ?_)
    refine x_istore_7 hP u27_989 (by exact rfl) ?_
    refine x_aload_n hP u27_991 rfl ?_
    refine x_invokevirtual (bc' := bc - 1) (bs' := bs - 6) hP u27_992 rfl rfl rfl rfl rfl ?_
    refine sp96 ?_
    refine x_iload hP u27_995 rfl ?_
    refine x_icmp_eq hP u27_997 (fun q997 => ?_) (fun q997 => ?_)
    · refine x_iload hP u27_1002 rfl ?_
      refine x_if_ne hP u27_1004 (fun q1004 => ?_) (fun q1004 => ?_)
      · refine x_goto hP u27_1026 ?_
        refine x_iinc_5 (v := 6) hP u27_1388 (by decide) (by exact rfl) ?_
        refine x_goto hP u27_1391 ?_
        rw [show nI (6 * g) + 6 = nI (6 * (g + 1)) from nI_add (6 * g) 6]
        refine hm _ _ _ _ _ _ _ (by repeat (first | exact am_le_nil | apply am_le_cons | apply am_le_none)) (hn _ _ _ _ _ _ _ _ _ _ _ _ _ _ (lw_I_15 hI) _ _ (by omega) (by omega))
      · exact absurd q1004 (by decide)
    · exact absurd rfl q997
set_option maxHeartbeats 4000000 in
theorem xw_1029 {P : am_P} (hm : am_mono P) {L : Nat} {xs : Nat → Int32} (hP : xm_HP (some (L, xs)) 15 27 xl_K P) {ha : Nat → Nat → Int32} {hz : Int32} {a1 : Nat → Nat → Int32} {s1 : Nat → Int32} {t1 : UInt32} {a2 : Nat → Nat → Int32} {s2 : Nat → Int32} {t2 : UInt32} {al : Int32} {ma : Nat → Nat → Int32} {ms : Nat → Int32} {mt : UInt32} {ol : Nat → Int64} {od : Nat → UInt64} {g : Nat} (hg : 6 * g + 6 ≤ L) (hL : L ≤ 3072) (hI : lw_I g ha hz a1 s1 t1 al ma ms mt) {bc bs : Nat} (hbc : 512 - g ≤ bc) (hbs : 6 * (512 - g) ≤ bs) (hn : ∀ (ha : Nat → Nat → Int32) (hz : Int32) (a1 : Nat → Nat → Int32) (s1 : Nat → Int32) (t1 : UInt32) (a2 : Nat → Nat → Int32) (s2 : Nat → Int32) (t2 : UInt32) (al : Int32) (ma : Nat → Nat → Int32) (ms : Nat → Int32) (mt : UInt32) (ol : Nat → Int64) (od : Nat → UInt64), lw_I (g + 1) ha hz a1 s1 t1 al ma ms mt → ∀ bc bs : Nat, 511 - g ≤ bc → 6 * (511 - g) ≤ bs → P 28 [some (.ref 1500), some (.ref 0), some (.ref 39), some (.ref 55), some (.ref 56), some (.int (nI (6 * (g + 1)))), none, none, none, none] [] (am_W ha hz a1 s1 t1 a2 s2 t2 al ma ms mt ol od) bc bs) : P 1029 [some (.ref 1500), some (.ref 0), some (.ref 39), some (.ref 55), some (.ref 56), some (.int (nI (6 * g))), none, none, none, none] [] (am_W ha hz a1 s1 t1 a2 s2 t2 al ma ms mt ol od) bc bs := by
  obtain ⟨T, M, D, S, hH, hh, hr, hWD, hS, hE, hD, hV, e8, e9, e10, et, eu, ev, ep, hB⟩ := lw_both hI
  obtain ⟨-, -, -, -, -, -, -, -, -, -, -, hal, hnar, -⟩ := id hI
  refine x_aload_n hP u27_1029 rfl ?_
  refine x_aload_n hP u27_1030 rfl ?_
  refine x_iload hP u27_1031 rfl ?_
  refine x_iconst (v := 1) hP u27_1033 (by decide) ?_
  refine x_iadd hP u27_1034 ?_
  rw [show nI (6 * g) + 1 = nI (6 * g + 1) from nI_add (6 * g) 1]
  refine x_sld hP u27_1035 (vp_in_nI (by omega) (by omega)) ?_
  rw [nI_clamp (by omega)]
  refine x_aload_n hP u27_1036 rfl ?_
  refine x_iload hP u27_1037 rfl ?_
  refine x_iconst (v := 2) hP u27_1039 (by decide) ?_
  refine x_iadd hP u27_1040 ?_
  rw [show nI (6 * g) + 2 = nI (6 * g + 2) from nI_add (6 * g) 2]
  refine x_sld hP u27_1041 (vp_in_nI (by omega) (by omega)) ?_
  rw [nI_clamp (by omega)]
  refine x_aload_n hP u27_1042 rfl ?_
  refine x_iload hP u27_1043 rfl ?_
  refine x_iconst (v := 3) hP u27_1045 (by decide) ?_
  refine x_iadd hP u27_1046 ?_
  rw [show nI (6 * g) + 3 = nI (6 * g + 3) from nI_add (6 * g) 3]
  refine x_sld hP u27_1047 (vp_in_nI (by omega) (by omega)) ?_
  rw [nI_clamp (by omega)]
  refine x_aload_n hP u27_1048 rfl ?_
  refine x_callS (bc' := bc - 1) (bs' := bs - 6) hP u27_1049 rfl rfl (by show bc = bc - 1 + 1; omega) (by show bs = bs - 6 + 6; omega) ?_
  refine xh24 hH hWD hr (by omega) hS hE (x := xs (6 * g + 1)) (y := xs (6 * g + 2)) (z := xs (6 * g + 3)) ?_ ?_
  · intro b p t9 X Y Z hX hY hZ hx hy hzz
    refine x_istore_6 hP u27_1052 (by exact rfl) ?_
    refine x_aload_n hP u27_1054 rfl ?_
    refine x_aload_n hP u27_1055 rfl ?_
    refine x_iload hP u27_1056 rfl ?_
    refine x_iconst (v := 1) hP u27_1058 (by decide) ?_
    refine x_iadd hP u27_1059 ?_
    rw [show nI (6 * g) + 1 = nI (6 * g + 1) from nI_add (6 * g) 1]
    refine x_sld hP u27_1060 (vp_in_nI (by omega) (by omega)) ?_
    rw [nI_clamp (by omega)]
    refine x_aload_n hP u27_1061 rfl ?_
    refine x_iload hP u27_1062 rfl ?_
    refine x_iconst (v := 2) hP u27_1064 (by decide) ?_
    refine x_iadd hP u27_1065 ?_
    rw [show nI (6 * g) + 2 = nI (6 * g + 2) from nI_add (6 * g) 2]
    refine x_sld hP u27_1066 (vp_in_nI (by omega) (by omega)) ?_
    rw [nI_clamp (by omega)]
    refine x_aload_n hP u27_1067 rfl ?_
    refine x_iload hP u27_1068 rfl ?_
    refine x_iconst (v := 3) hP u27_1070 (by decide) ?_
    refine x_iadd hP u27_1071 ?_
    rw [show nI (6 * g) + 3 = nI (6 * g + 3) from nI_add (6 * g) 3]
    refine x_sld hP u27_1072 (vp_in_nI (by omega) (by omega)) ?_
    rw [nI_clamp (by omega)]
    refine x_invokevirtual (bc' := bc - 1) (bs' := bs - 6) hP u27_1073 rfl rfl rfl rfl rfl ?_
    refine sp145 (S := S) hB (x := xs (6 * g + 1)) (y := xs (6 * g + 2)) (z := xs (6 * g + 3)) (fun X9 Y9 Z9 hX9 hY9 hZ9 hx9 hy9 hz9 => ?_) (fun h => absurd ((show mi_cell (xs (6 * g + 1)) (xs (6 * g + 2)) (xs (6 * g + 3)) = true by rw [hx, hy, hzz]; exact lw_cell hX hY hZ).symm.trans h) (by decide))
    obtain rfl : X = X9 := (nI_inj (by omega) (by omega)).mp (hx.symm.trans hx9)
    obtain rfl : Y = Y9 := (nI_inj (by omega) (by omega)).mp (hy.symm.trans hy9)
    obtain rfl : Z = Z9 := (nI_inj (by omega) (by omega)).mp (hzz.symm.trans hz9)
    refine x_istore_7 hP u27_1076 (by exact rfl) ?_
    refine x_aload_n hP u27_1078 rfl ?_
    refine x_invokevirtual (bc' := bc - 1) (bs' := bs - 6) hP u27_1079 rfl rfl rfl rfl rfl ?_
    refine sp96 ?_
    refine x_iload hP u27_1082 rfl ?_
    refine x_icmp_eq hP u27_1084 (fun q1084 => ?_) (fun q1084 => ?_)
    · refine x_iload hP u27_1089 rfl ?_
      refine x_if_ne hP u27_1091 (fun q1091 => ?_) (fun q1091 => ?_)
      · exact absurd rfl q1091
      · refine x_aload_n hP u27_1094 rfl ?_
        refine x_iconst (v := 0) hP u27_1095 (by decide) ?_
        refine x_laload hP u27_1096 rfl (vp_in_nI (n := 0) (by decide) (by decide)) ?_
        refine x_iload hP u27_1097 rfl ?_
        refine x_zeq hP u27_1099 (fun q1099 => ?_) (fun q1099 => ?_)
        · refine x_lconst (v := 0) hP u27_1106 (by decide) ?_
          refine x_lcmp hP u27_1107 ?_
          refine x_if_eq hP u27_1108 (fun q1108 => ?_) (fun q1108 => ?_)
          · refine x_goto hP u27_1113 ?_
            refine x_iinc_5 (v := 6) hP u27_1388 (by decide) (by exact rfl) ?_
            refine x_goto hP u27_1391 ?_
            rw [show nI (6 * g) + 6 = nI (6 * (g + 1)) from nI_add (6 * g) 6]
            refine hm _ _ _ _ _ _ _ (by repeat (first | exact am_le_nil | apply am_le_cons | apply am_le_none)) (hn _ _ _ _ _ _ _ _ _ _ _ _ _ _ (lw_I_15 hI) _ _ (by omega) (by omega))
          · exact absurd (lw_cmp (by
              show cond (S (X + 16 * Y + 192 * Z)) (1 : Int64) 0 = 0
              rw [q1099]
              rfl)) q1108
        · refine x_lconst (v := 1) hP u27_1102 (by decide) ?_
          refine x_goto hP u27_1103 ?_
          refine x_lcmp hP u27_1107 ?_
          refine x_if_eq hP u27_1108 (fun q1108 => ?_) (fun q1108 => ?_)
          · refine x_goto hP u27_1113 ?_
            refine x_iinc_5 (v := 6) hP u27_1388 (by decide) (by exact rfl) ?_
            refine x_goto hP u27_1391 ?_
            rw [show nI (6 * g) + 6 = nI (6 * (g + 1)) from nI_add (6 * g) 6]
            refine hm _ _ _ _ _ _ _ (by repeat (first | exact am_le_nil | apply am_le_cons | apply am_le_none)) (hn _ _ _ _ _ _ _ _ _ _ _ _ _ _ (lw_I_15 hI) _ _ (by omega) (by omega))
          · exact absurd (lw_cmp (by
              show cond (S (X + 16 * Y + 192 * Z)) (1 : Int64) 0 = 1
              rw [q1099]
              rfl)) q1108
    · exact absurd rfl q1084
  · intro hk
    refine x_istore_6 hP u27_1052 (by exact rfl) ?_
    refine x_aload_n hP u27_1054 rfl ?_
    refine x_aload_n hP u27_1055 rfl ?_
    refine x_iload hP u27_1056 rfl ?_
    refine x_iconst (v := 1) hP u27_1058 (by decide) ?_
    refine x_iadd hP u27_1059 ?_
    rw [show nI (6 * g) + 1 = nI (6 * g + 1) from nI_add (6 * g) 1]
    refine x_sld hP u27_1060 (vp_in_nI (by omega) (by omega)) ?_
    rw [nI_clamp (by omega)]
    refine x_aload_n hP u27_1061 rfl ?_
    refine x_iload hP u27_1062 rfl ?_
    refine x_iconst (v := 2) hP u27_1064 (by decide) ?_
    refine x_iadd hP u27_1065 ?_
    rw [show nI (6 * g) + 2 = nI (6 * g + 2) from nI_add (6 * g) 2]
    refine x_sld hP u27_1066 (vp_in_nI (by omega) (by omega)) ?_
    rw [nI_clamp (by omega)]
    refine x_aload_n hP u27_1067 rfl ?_
    refine x_iload hP u27_1068 rfl ?_
    refine x_iconst (v := 3) hP u27_1070 (by decide) ?_
    refine x_iadd hP u27_1071 ?_
    rw [show nI (6 * g) + 3 = nI (6 * g + 3) from nI_add (6 * g) 3]
    refine x_sld hP u27_1072 (vp_in_nI (by omega) (by omega)) ?_
    rw [nI_clamp (by omega)]
    refine x_invokevirtual (bc' := bc - 1) (bs' := bs - 6) hP u27_1073 rfl rfl rfl rfl rfl ?_
    refine sp145 (S := S) hB (x := xs (6 * g + 1)) (y := xs (6 * g + 2)) (z := xs (6 * g + 3)) (fun X9 Y9 Z9 hX9 hY9 hZ9 hx9 hy9 hz9 => absurd ((show mi_cell (xs (6 * g + 1)) (xs (6 * g + 2)) (xs (6 * g + 3)) = true by rw [hx9, hy9, hz9]; exact lw_cell hX9 hY9 hZ9).symm.trans hk) (by decide)) (fun _ => ?_)
    refine x_istore_7 hP u27_1076 (by exact rfl) ?_
    refine x_aload_n hP u27_1078 rfl ?_
    refine x_invokevirtual (bc' := bc - 1) (bs' := bs - 6) hP u27_1079 rfl rfl rfl rfl rfl ?_
    refine sp96 ?_
    refine x_iload hP u27_1082 rfl ?_
    refine x_icmp_eq hP u27_1084 (fun q1084 => ?_) (fun q1084 => ?_)
    · refine x_iload hP u27_1089 rfl ?_
      refine x_if_ne hP u27_1091 (fun q1091 => ?_) (fun q1091 => ?_)
      · refine x_goto hP u27_1113 ?_
        refine x_iinc_5 (v := 6) hP u27_1388 (by decide) (by exact rfl) ?_
        refine x_goto hP u27_1391 ?_
        rw [show nI (6 * g) + 6 = nI (6 * (g + 1)) from nI_add (6 * g) 6]
        refine hm _ _ _ _ _ _ _ (by repeat (first | exact am_le_nil | apply am_le_cons | apply am_le_none)) (hn _ _ _ _ _ _ _ _ _ _ _ _ _ _ (lw_I_15 hI) _ _ (by omega) (by omega))
      · exact absurd q1091 (by decide)
    · exact absurd rfl q1084
set_option maxHeartbeats 4000000 in
theorem xw_1129 {P : am_P} (hm : am_mono P) {L : Nat} {xs : Nat → Int32} (hP : xm_HP (some (L, xs)) 15 27 xl_K P) {ha : Nat → Nat → Int32} {hz : Int32} {a1 : Nat → Nat → Int32} {s1 : Nat → Int32} {t1 : UInt32} {a2 : Nat → Nat → Int32} {s2 : Nat → Int32} {t2 : UInt32} {al : Int32} {ma : Nat → Nat → Int32} {ms : Nat → Int32} {mt : UInt32} {ol : Nat → Int64} {od : Nat → UInt64} {g : Nat} (hg : 6 * g + 6 ≤ L) (hL : L ≤ 3072) (hI : lw_I g ha hz a1 s1 t1 al ma ms mt) {bc bs : Nat} (hbc : 512 - g ≤ bc) (hbs : 6 * (512 - g) ≤ bs) (hn : ∀ (ha : Nat → Nat → Int32) (hz : Int32) (a1 : Nat → Nat → Int32) (s1 : Nat → Int32) (t1 : UInt32) (a2 : Nat → Nat → Int32) (s2 : Nat → Int32) (t2 : UInt32) (al : Int32) (ma : Nat → Nat → Int32) (ms : Nat → Int32) (mt : UInt32) (ol : Nat → Int64) (od : Nat → UInt64), lw_I (g + 1) ha hz a1 s1 t1 al ma ms mt → ∀ bc bs : Nat, 511 - g ≤ bc → 6 * (511 - g) ≤ bs → P 28 [some (.ref 1500), some (.ref 0), some (.ref 39), some (.ref 55), some (.ref 56), some (.int (nI (6 * (g + 1)))), none, none, none, none] [] (am_W ha hz a1 s1 t1 a2 s2 t2 al ma ms mt ol od) bc bs) : P 1129 [some (.ref 1500), some (.ref 0), some (.ref 39), some (.ref 55), some (.ref 56), some (.int (nI (6 * g))), none, none, none, none] [] (am_W ha hz a1 s1 t1 a2 s2 t2 al ma ms mt ol od) bc bs := by
  obtain ⟨T, M, D, S, hH, hh, hr, hWD, hS, hE, hD, hV, e8, e9, e10, et, eu, ev, ep, hB⟩ := lw_both hI
  obtain ⟨-, -, -, -, -, -, -, -, -, -, -, hal, hnar, -⟩ := id hI
  refine x_aload_n hP u27_1129 rfl ?_
  refine x_aload_n hP u27_1130 rfl ?_
  refine x_iload hP u27_1131 rfl ?_
  refine x_iconst (v := 1) hP u27_1133 (by decide) ?_
  refine x_iadd hP u27_1134 ?_
  rw [show nI (6 * g) + 1 = nI (6 * g + 1) from nI_add (6 * g) 1]
  refine x_sld hP u27_1135 (vp_in_nI (by omega) (by omega)) ?_
  rw [nI_clamp (by omega)]
  refine x_aload_n hP u27_1136 rfl ?_
  refine x_iload hP u27_1137 rfl ?_
  refine x_iconst (v := 2) hP u27_1139 (by decide) ?_
  refine x_iadd hP u27_1140 ?_
  rw [show nI (6 * g) + 2 = nI (6 * g + 2) from nI_add (6 * g) 2]
  refine x_sld hP u27_1141 (vp_in_nI (by omega) (by omega)) ?_
  rw [nI_clamp (by omega)]
  refine x_aload_n hP u27_1142 rfl ?_
  refine x_callS (bc' := bc - 1) (bs' := bs - 6) hP u27_1143 rfl rfl (by show bc = bc - 1 + 1; omega) (by show bs = bs - 6 + 6; omega) ?_
  refine xh25 hS (x := xs (6 * g + 1)) (y := xs (6 * g + 2)) ?_ ?_
  · intro X Y hX hY hx hy
    refine x_istore_6 hP u27_1146 (by exact rfl) ?_
    refine x_aload_n hP u27_1148 rfl ?_
    refine x_aload_n hP u27_1149 rfl ?_
    refine x_iload hP u27_1150 rfl ?_
    refine x_iconst (v := 1) hP u27_1152 (by decide) ?_
    refine x_iadd hP u27_1153 ?_
    rw [show nI (6 * g) + 1 = nI (6 * g + 1) from nI_add (6 * g) 1]
    refine x_sld hP u27_1154 (vp_in_nI (by omega) (by omega)) ?_
    rw [nI_clamp (by omega)]
    refine x_aload_n hP u27_1155 rfl ?_
    refine x_iload hP u27_1156 rfl ?_
    refine x_iconst (v := 2) hP u27_1158 (by decide) ?_
    refine x_iadd hP u27_1159 ?_
    rw [show nI (6 * g) + 2 = nI (6 * g + 2) from nI_add (6 * g) 2]
    refine x_sld hP u27_1160 (vp_in_nI (by omega) (by omega)) ?_
    rw [nI_clamp (by omega)]
    refine x_invokevirtual (bc' := bc - 1) (bs' := bs - 6) hP u27_1161 rfl rfl rfl rfl rfl ?_
    refine sp148 (S := S) hB (x := xs (6 * g + 1)) (y := xs (6 * g + 2)) (fun X9 Y9 hX9 hY9 hx9 hy9 => ?_) (fun h => absurd ((show mi_cell (xs (6 * g + 1)) (xs (6 * g + 2)) 0 = true by rw [hx, hy]; exact lw_cell (Z := 0) hX hY (by decide)).symm.trans h) (by decide))
    obtain rfl : X = X9 := (nI_inj (by omega) (by omega)).mp (hx.symm.trans hx9)
    obtain rfl : Y = Y9 := (nI_inj (by omega) (by omega)).mp (hy.symm.trans hy9)
    refine x_istore_7 hP u27_1164 (by exact rfl) ?_
    refine x_aload_n hP u27_1166 rfl ?_
    refine x_invokevirtual (bc' := bc - 1) (bs' := bs - 6) hP u27_1167 rfl rfl rfl rfl rfl ?_
    refine sp96 ?_
    refine x_iload hP u27_1170 rfl ?_
    refine x_icmp_eq hP u27_1172 (fun q1172 => ?_) (fun q1172 => ?_)
    · refine x_iload hP u27_1177 rfl ?_
      refine x_if_ne hP u27_1179 (fun q1179 => ?_) (fun q1179 => ?_)
      · exact absurd rfl q1179
      · refine x_aload_n hP u27_1182 rfl ?_
        refine x_iconst (v := 0) hP u27_1183 (by decide) ?_
        refine x_laload hP u27_1184 rfl (vp_in_nI (n := 0) (by decide) (by decide)) ?_
        refine x_iload hP u27_1185 rfl ?_
        refine x_i2l hP u27_1187 ?_
        refine x_lcmp hP u27_1188 ?_
        refine x_if_eq hP u27_1189 (fun q1189 => ?_) (fun q1189 => ?_)
        · refine x_goto hP u27_1194 ?_
          refine x_iinc_5 (v := 6) hP u27_1388 (by decide) (by exact rfl) ?_
          refine x_goto hP u27_1391 ?_
          rw [show nI (6 * g) + 6 = nI (6 * (g + 1)) from nI_add (6 * g) 6]
          refine hm _ _ _ _ _ _ _ (by repeat (first | exact am_le_nil | apply am_le_cons | apply am_le_none)) (hn _ _ _ _ _ _ _ _ _ _ _ _ _ _ (lw_I_15 hI) _ _ (by omega) (by omega))
        · exact absurd (lw_cmp rfl) q1189
    · exact absurd rfl q1172
  · intro hk
    refine x_istore_6 hP u27_1146 (by exact rfl) ?_
    refine x_aload_n hP u27_1148 rfl ?_
    refine x_aload_n hP u27_1149 rfl ?_
    refine x_iload hP u27_1150 rfl ?_
    refine x_iconst (v := 1) hP u27_1152 (by decide) ?_
    refine x_iadd hP u27_1153 ?_
    rw [show nI (6 * g) + 1 = nI (6 * g + 1) from nI_add (6 * g) 1]
    refine x_sld hP u27_1154 (vp_in_nI (by omega) (by omega)) ?_
    rw [nI_clamp (by omega)]
    refine x_aload_n hP u27_1155 rfl ?_
    refine x_iload hP u27_1156 rfl ?_
    refine x_iconst (v := 2) hP u27_1158 (by decide) ?_
    refine x_iadd hP u27_1159 ?_
    rw [show nI (6 * g) + 2 = nI (6 * g + 2) from nI_add (6 * g) 2]
    refine x_sld hP u27_1160 (vp_in_nI (by omega) (by omega)) ?_
    rw [nI_clamp (by omega)]
    refine x_invokevirtual (bc' := bc - 1) (bs' := bs - 6) hP u27_1161 rfl rfl rfl rfl rfl ?_
    refine sp148 (S := S) hB (x := xs (6 * g + 1)) (y := xs (6 * g + 2)) (fun X9 Y9 hX9 hY9 hx9 hy9 => absurd ((show mi_cell (xs (6 * g + 1)) (xs (6 * g + 2)) 0 = true by rw [hx9, hy9]; exact lw_cell (Z := 0) hX9 hY9 (by decide)).symm.trans hk) (by decide)) (fun _ => ?_)
    refine x_istore_7 hP u27_1164 (by exact rfl) ?_
    refine x_aload_n hP u27_1166 rfl ?_
    refine x_invokevirtual (bc' := bc - 1) (bs' := bs - 6) hP u27_1167 rfl rfl rfl rfl rfl ?_
    refine sp96 ?_
    refine x_iload hP u27_1170 rfl ?_
    refine x_icmp_eq hP u27_1172 (fun q1172 => ?_) (fun q1172 => ?_)
    · refine x_iload hP u27_1177 rfl ?_
      refine x_if_ne hP u27_1179 (fun q1179 => ?_) (fun q1179 => ?_)
      · refine x_goto hP u27_1194 ?_
        refine x_iinc_5 (v := 6) hP u27_1388 (by decide) (by exact rfl) ?_
        refine x_goto hP u27_1391 ?_
        rw [show nI (6 * g) + 6 = nI (6 * (g + 1)) from nI_add (6 * g) 6]
        refine hm _ _ _ _ _ _ _ (by repeat (first | exact am_le_nil | apply am_le_cons | apply am_le_none)) (hn _ _ _ _ _ _ _ _ _ _ _ _ _ _ (lw_I_15 hI) _ _ (by omega) (by omega))
      · exact absurd q1179 (by decide)
    · exact absurd rfl q1172
