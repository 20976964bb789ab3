/-! THE CLASS RUNS; A HEIGHT. (rows by gen/sp33.py) -/
def xh_v : Nat → Int32
  | 0 => -1
  | h + 1 => nI h
set_option maxHeartbeats 4000000 in
theorem xp12 {d : Nat} {K : xm_K} {ha : Nat → Nat → Int32} {hz : Int32} {a1 : Nat → Nat → Int32} {s1 : Nat → Int32} {t1 : UInt32} {a2 : Nat → Nat → Int32} {s2 : Nat → Int32} {t2 : UInt32} {al : Int32} {ma : Nat → Nat → Int32} {ms : Nat → Int32} {mt : UInt32} {ol : Nat → Int64} {od : Nat → UInt64} {S : Nat → Bool} (hS : ∀ j, j < 72 → a1 0 j = mr_w (fun q => S (16 * j + q))) {x y : Int32} (kin : ∀ X Y, X < 16 → Y < 12 → x = nI X → y = nI Y → K (.inl (some (.int (nI (mt_hgt S X Y 6))))) (am_W ha hz a1 s1 t1 a2 s2 t2 al ma ms mt ol od)) (kout : mi_cell x y 0 = false → K (.inr 0) (am_W ha hz a1 s1 t1 a2 s2 t2 al ma ms mt ol od)) : xm_Run (d + 12) 12 [.ref 0, .int x, .int y] (am_W ha hz a1 s1 t1 a2 s2 t2 al ma ms mt ol od) K := by
  refine ⟨rfl, by omega, fun P hm hP => ?_⟩
  show P 0 [some (.ref 0), some (.int x), some (.int y), none] [] _ 1 6
  refine x_iload_n hP u12_0 rfl ?_
  refine x_iload_n hP u12_1 rfl ?_
  refine x_iconst (v := 0) hP u12_2 (by decide) ?_
  refine x_callS (bc' := 0) (bs' := 0) hP u12_3 rfl rfl rfl rfl ?_
  refine xp0 (fun hc => ?_) (fun hc => ?_)
  · obtain ⟨X, Y, Z, hX, hY, hZ, rfl, rfl, -⟩ := mi_cell_nI hc
    refine x_iconst (v := 5) hP u12_6 (by decide) ?_
    refine x_istore_n_3 hP u12_7 (by exact rfl) ?_
    have hcell : ∀ h, h < 6 → mi_cell (nI X) (nI Y) (nI h) = true := fun h hh => by
      show (mi_iw (nI X) 0 (nI 15) && mi_iw (nI Y) 0 (nI 11) && mi_iw (nI h) 0 (nI 5)) = true
      rw [mi_iw_at (by decide) (by omega), mi_iw_at (by decide) (by omega), mi_iw_at (by decide) (by omega)]
      rfl
    have loop : ∀ h, h ≤ 6 → mt_hgt S X Y h = mt_hgt S X Y 6 → P 8 [some (.ref 0), some (.int (nI X)), some (.int (nI Y)), some (.int (xh_v h))] [] (am_W ha hz a1 s1 t1 a2 s2 t2 al ma ms mt ol od) 0 0 := by
      intro h
      induction h with
      | zero =>
        intro h3 hr
        show P 8 [some (.ref 0), some (.int (nI X)), some (.int (nI Y)), some (.int (-1))] [] (am_W ha hz a1 s1 t1 a2 s2 t2 al ma ms mt ol od) 0 0
        refine x_iload_n hP u12_8 rfl ?_
        refine x_if_lt hP u12_9 (fun q9 => ?_) (fun q9 => ?_)
        · refine x_iconst (v := 0) hP u12_38 (by decide) ?_
          refine x_ireturn hP u12_39 rfl rfl ?_
          rw [show (0 : Int32) = nI (mt_hgt S X Y 6) by rw [← hr]; rfl]
          exact kin X Y hX hY rfl rfl
        · exact absurd (show (-1 : Int32) < 0 by decide) q9
      | succ h9 ih =>
        intro h3 hr
        show P 8 [some (.ref 0), some (.int (nI X)), some (.int (nI Y)), some (.int (nI h9))] [] (am_W ha hz a1 s1 t1 a2 s2 t2 al ma ms mt ol od) 0 0
        refine x_iload_n hP u12_8 rfl ?_
        refine x_if_lt hP u12_9 (fun q9 => ?_) (fun q9 => ?_)
        · exact absurd q9 (Int32.not_lt.mpr (nI_pos' (by omega)))
        · refine x_aload_n hP u12_12 rfl ?_
          refine x_getfield hP u12_13 rfl rfl ?_
          refine x_getfield hP u12_16 rfl rfl ?_
          refine x_iload_n hP u12_19 rfl ?_
          refine x_iload_n hP u12_20 rfl ?_
          refine x_iload_n hP u12_21 rfl ?_
          refine x_invokevirtual (bc' := 0) (bs' := 0) hP u12_22 rfl rfl rfl rfl rfl ?_
          refine sp2 (a := 16) (b := 17) rfl rfl hS (fun X9 Y9 Z9 h1 h2 h3 h4 h5 h6 => ?_) (fun h => absurd ((hcell h9 (by omega)).symm.trans h) (by decide))
          obtain rfl : X = X9 := (nI_inj (by omega) (by omega)).mp h4
          obtain rfl : Y = Y9 := (nI_inj (by omega) (by omega)).mp h5
          obtain rfl : h9 = Z9 := (nI_inj (by omega) (by omega)).mp h6
          refine x_zeq hP u12_25 (fun q25 => ?_) (fun q25 => ?_)
          · refine x_iinc_3 (v := (-1)) hP u12_32 (by decide) (by exact rfl) ?_
            refine x_goto hP u12_35 ?_
            have hr9 : mt_hgt S X Y h9 = mt_hgt S X Y 6 := by rw [← hr, mt_hgt, if_neg (by rw [q25]; decide)]
            cases h9 with
            | zero => exact ih (by omega) hr9
            | succ h8 => exact (nI_m1 h8).symm ▸ ih (by omega) hr9
          · refine x_iload_n hP u12_28 rfl ?_
            refine x_iconst (v := 1) hP u12_29 (by decide) ?_
            refine x_iadd hP u12_30 ?_
            rw [nI_1]
            refine x_ireturn hP u12_31 rfl rfl ?_
            rw [show nI (h9 + 1) = nI (mt_hgt S X Y 6) by rw [← hr, mt_hgt, if_pos q25]]
            exact kin X Y hX hY rfl rfl
    exact loop 6 (Nat.le_refl _) rfl
  · exact ⟨rfl, kout hc⟩
set_option maxHeartbeats 8000000 in
theorem xp6 {d : Nat} {K : xm_K} {ha : Nat → Nat → Int32} {hz : Int32} {a1 : Nat → Nat → Int32} {s1 : Nat → Int32} {t1 : UInt32} {a2 : Nat → Nat → Int32} {s2 : Nat → Int32} {t2 : UInt32} {al : Int32} {ma : Nat → Nat → Int32} {ms : Nat → Int32} {mt : UInt32} {ol : Nat → Int64} {od : Nat → UInt64} {x : Int32} {T : Nat → Bool} {M D : Nat} (hH : sx_H ha hz T M) (hr0 : sx_run ha hz T M D) {S : Nat → Bool} (hS : ∀ j, j < 72 → a1 0 j = mr_w (fun q => S (16 * j + q))) (hE0 : sx_E (ha 5) (sx_N (sx_it ha hz D sx_0)) (sx_it ha hz D sx_0) (a1, s1, t1, S)) (k1 : mi_iw x 1 100 = false → K (.inr 1) (am_W ha hz a1 s1 t1 a2 s2 t2 al ma ms mt ol od)) (k3 : mi_iw x 1 100 = true → ¬ mw_W (ha 5) M → K (.inr 3) (am_W ha hz a1 s1 t1 a2 s2 t2 al ma ms mt ol od)) (kf : ∀ n, x = nI n → 1 ≤ n → n ≤ 100 → mw_W (ha 5) M → ∀ (r : Nat) (v : Int32) (b : Nat → Nat → Int32) (p : Nat → Int32) (t9 : UInt32) (S9 : Nat → Bool), sx_res ha hz T M n D = (r, v) → sx_run ha hz T M (D + r) → (∀ j, j < 72 → b 0 j = mr_w (fun q => S9 (16 * j + q))) → sx_E (ha 5) (sx_N (sx_it ha hz (D + r) sx_0)) (sx_it ha hz (D + r) sx_0) (b, p, t9, S9) → K (.inl (some (.int (nI r)))) (am_W ha hz b p t9 a2 s2 t2 v ma ms mt ol od)) : xm_Run (d + 12) 6 [.ref 0, .int x] (am_W ha hz a1 s1 t1 a2 s2 t2 al ma ms mt ol od) K := by
  refine ⟨rfl, by omega, fun P hm hP => ?_⟩
  show P 0 [some (.ref 0), some (.int x), none] [] _ 1 6
  have hxn : mi_iw x 1 100 = true → ∃ n, x = nI n ∧ 1 ≤ n ∧ n ≤ 100 := fun q => by
    have w := ig_iw q
    rw [show (1 : Int32).toInt = 1 from rfl, show (100 : Int32).toInt = 100 from rfl] at w
    refine ⟨x.toInt.toNat, ?_, by omega, by omega⟩
    apply Int32.toInt_inj.mp
    rw [nI_toInt (by omega)]
    omega
  refine x_iload_n hP u6_0 rfl ?_
  refine x_iconst (v := 1) hP u6_1 (by decide) ?_
  refine x_bipush (v := 100) hP u6_2 (by decide) ?_
  refine x_invokestatic (bc' := 1) (bs' := 6) hP u6_4 rfl rfl rfl rfl rfl ?_
  refine sp84 ?_
  refine x_zne hP u6_7 (fun q7 => ?_) (fun q7 => ?_)
  · refine x_aload_n hP u6_20 rfl ?_
    refine x_getfield hP u6_21 rfl rfl ?_
    refine x_getfield hP u6_24 rfl rfl ?_
    refine x_invokevirtual (bc' := 1) (bs' := 6) hP u6_27 rfl rfl rfl rfl rfl ?_
    refine sp53 hH.1 hH.2.1 hH.2.2.2.2.2.2.1 (fun v hv => ?_)
    refine x_zne hP u6_30 (fun q30 => ?_) (fun q30 => ?_)
    · refine x_aload_n hP u6_43 rfl ?_
      refine x_bipush (v := 45) hP u6_44 (by decide) ?_
      refine x_putfield hP u6_46 rfl rfl rfl rfl ?_
      refine x_iconst (v := 0) hP u6_49 (by decide) ?_
      refine x_istore_n_2 hP u6_50 (by exact rfl) ?_
      obtain ⟨n, hx, hn1, hn9⟩ := hxn q7
      have hW := (hv.mp q30)
      have kf := kf n hx hn1 hn9 hW
      have loop : ∀ (m i : Nat) (b : Nat → Nat → Int32) (p : Nat → Int32) (t9 : UInt32) (S9 : Nat → Bool), i + m = n → sx_res ha hz T M n D = (i + (sx_res ha hz T M m (D + i)).1, (sx_res ha hz T M m (D + i)).2) → sx_run ha hz T M (D + i) → (∀ j, j < 72 → b 0 j = mr_w (fun q => S9 (16 * j + q))) → sx_E (ha 5) (sx_N (sx_it ha hz (D + i) sx_0)) (sx_it ha hz (D + i) sx_0) (b, p, t9, S9) → P 51 [some (.ref 0), some (.int x), some (.int (nI (i)))] [] (am_W ha hz b p t9 a2 s2 t2 45 ma ms mt ol od) 1 6 := by
        intro m
        induction m with
        | zero =>
          intro i b p t9 S9 h3 hres hr hS9 hE
          refine x_iload_n hP u6_51 rfl ?_
          refine x_iload_n hP u6_52 rfl ?_
          refine x_icmp_ge hP u6_53 (fun q53 => ?_) (fun q53 => ?_)
          · refine x_iload_n hP u6_110 rfl ?_
            refine x_ireturn hP u6_111 rfl rfl ?_
            rw [show sx_res ha hz T M 0 (D + i) = (0, 45) from rfl] at hres
            rw [hx, show n = i by omega]
            exact kf i _ b p t9 S9 hres hr hS9 hE
          · exact absurd (by rw [hx, show n = i by omega]; exact Int32.le_refl _) q53
        | succ m ih =>
          intro i b p t9 S9 h3 hres hr hS9 hE
          have hDV := sx_it_V hH hW _ hr
          have h8 : p 8 = nI (sx_N (sx_it ha hz (D + i) sx_0)) := by
            have e := hE.2.2.2.2.1 8 (by omega) (by omega) (by omega)
            obtain ⟨N, v1, v2⟩ := hDV.1
            rw [v1] at e
            rw [sx_N, v1, nI_clamp (by have := hH.2.1; omega)]
            exact e.symm
          have hNM : sx_N (sx_it ha hz (D + i) sx_0) ≤ M := by
            obtain ⟨N, v1, v2⟩ := hDV.1
            rw [sx_N, v1, nI_clamp (by have := hH.2.1; omega)]
            exact v2
          refine x_iload_n hP u6_51 rfl ?_
          refine x_iload_n hP u6_52 rfl ?_
          refine x_icmp_ge hP u6_53 (fun q53 => ?_) (fun q53 => ?_)
          · exact absurd q53 (by rw [hx, nI_leI (by omega) (by omega)]; omega)
          · refine x_aload_n hP u6_56 rfl ?_
            refine x_getfield hP u6_57 rfl rfl ?_
            refine x_invokevirtual (bc' := 1) (bs' := 6) hP u6_60 rfl rfl rfl rfl rfl ?_
            refine sp12_1 (s1 := p) ?_
            refine x_zeq hP u6_63 (fun q63 => ?_) (fun q63 => ?_)
            · have hN9 : sx_N (sx_it ha hz (D + i) sx_0) < M := by
                have : ¬ nI M ≤ nI (sx_N (sx_it ha hz (D + i) sx_0)) := by
                  rw [← hH.1, ← h8]
                  exact of_decide_eq_false q63
                rw [nI_leI (by have := hH.2.1; omega) (by have := hH.2.1; omega)] at this
                omega
              refine x_aload_n hP u6_68 rfl ?_
              refine x_aload_n hP u6_69 rfl ?_
              refine x_getfield hP u6_70 rfl rfl ?_
              refine x_invokevirtual (bc' := 1) (bs' := 6) hP u6_73 rfl rfl rfl rfl rfl ?_
              obtain ⟨c1, c2, c3, c4⟩ := sx_more (D := D + i) hH hW hr hN9 hE
              refine sp16s_1 (a1 := b) (s1 := p) (t1 := t9) (S := S9) (al := 45) hH c2 hS9 c1 hW (fun b6 p6 h1 h2 h3 h4 => ?_) (fun b6 p6 t6 S6 h1 h2 h3 h4 => ?_)
              · rw [c3] at h1 ⊢
                refine x_putfield hP u6_76 rfl rfl nar_al fit_al ?_
                refine x_aload_n hP u6_79 rfl ?_
                refine x_getfield hP u6_80 rfl rfl ?_
                refine x_bipush (v := 45) hP u6_83 (by decide) ?_
                refine x_icmp_eq hP u6_85 (fun q85 => ?_) (fun q85 => ?_)
                · exact absurd q85 h1
                · refine x_iload_n hP u6_88 rfl ?_
                  refine x_ireturn hP u6_89 rfl rfl ?_
                  have hr9 : sx_res ha hz T M (m + 1) (D + i) = (0, sx_al ha T (sx_it ha hz (D + i) sx_0)) := by rw [sx_res, if_neg (fun q => q hN9), if_pos h1]
                  rw [hr9] at hres
                  refine kf i _ b6 p6 t9 S9 hres hr (fun j hj => by rw [h2 0 (by omega)]; exact hS9 j hj) ?_
                  obtain ⟨e1, e2, e3, e4, e5, e6, e7⟩ := hE
                  exact ⟨fun c hc => (e1 c hc).trans (congrFun (h2 1 (by omega)) c).symm, fun j hj => (e2 j hj).trans (congrFun (h2 2 (by omega)) j).symm, fun j hj => (e3 j hj).trans (congrFun (h2 3 (by omega)) j).symm, fun r hr8 h5 => (e4 r hr8 h5).trans (congrFun (h2 4 (by omega)) r).symm, fun j g1 g2 g3 => (e5 j g1 g2 g3).trans (h3 j (by omega)).symm, e6, e7⟩
              · rw [c3] at h1
                obtain ⟨d1, d2⟩ := c4 h1
                have hE6 := d2 _ h3
                refine x_putfield hP u6_76 rfl rfl rfl rfl ?_
                refine x_aload_n hP u6_79 rfl ?_
                refine x_getfield hP u6_80 rfl rfl ?_
                refine x_bipush (v := 45) hP u6_83 (by decide) ?_
                refine x_icmp_eq hP u6_85 (fun q85 => ?_) (fun q85 => ?_)
                · refine x_aload_n hP u6_90 rfl ?_
                  refine x_getfield hP u6_91 rfl rfl ?_
                  refine x_invokevirtual (bc' := 1) (bs' := 6) hP u6_94 rfl rfl rfl rfl rfl ?_
                  refine sp13_1 (s1 := p6) ?_
                  rw [h4, sx_N_E hE]
                  refine x_zeq hP u6_97 (fun q97 => ?_) (fun q97 => ?_)
                  · refine x_iinc_2 (v := 1) hP u6_104 (by decide) (by exact rfl) ?_
                    refine x_goto hP u6_107 ?_
                    rw [nI_1]
                    have hk9 : ¬ ha 5 (sx_N (sx_it ha hz (D + i) sx_0)) = 113 := of_decide_eq_false q97
                    have hr9 : sx_res ha hz T M (m + 1) (D + i) = ((sx_res ha hz T M m (D + i + 1)).1 + 1, (sx_res ha hz T M m (D + i + 1)).2) := by rw [sx_res, if_neg (fun q => q hN9), if_neg (fun q => q h1), if_neg hk9]
                    rw [hr9] at hres
                    exact ih (i + 1) b6 p6 t6 S6 (by omega) (hres.trans (by
                      rw [show D + (i + 1) = D + i + 1 by omega]
                      congr 1
                      omega)) d1 h2 hE6
                  · refine x_iload_n hP u6_100 rfl ?_
                    refine x_iconst (v := 1) hP u6_101 (by decide) ?_
                    refine x_iadd hP u6_102 ?_
                    rw [nI_1]
                    refine x_ireturn hP u6_103 rfl rfl ?_
                    have hk9 : ha 5 (sx_N (sx_it ha hz (D + i) sx_0)) = 113 := of_decide_eq_true q97
                    have hr9 : sx_res ha hz T M (m + 1) (D + i) = (1, 45) := by rw [sx_res, if_neg (fun q => q hN9), if_neg (fun q => q h1), if_pos hk9]
                    rw [hr9] at hres
                    exact kf (i + 1) _ b6 p6 t6 S6 hres d1 h2 hE6
                · exact absurd rfl q85
              
            · have hN9 : ¬ sx_N (sx_it ha hz (D + i) sx_0) < M := by
                have : nI M ≤ nI (sx_N (sx_it ha hz (D + i) sx_0)) := by
                  rw [← hH.1, ← h8]
                  exact of_decide_eq_true q63
                rw [nI_leI (by have := hH.2.1; omega) (by have := hH.2.1; omega)] at this
                omega
              refine x_iload_n hP u6_66 rfl ?_
              refine x_ireturn hP u6_67 rfl rfl ?_
              have hr9 : sx_res ha hz T M (m + 1) (D + i) = (0, 45) := by rw [sx_res, if_pos hN9]
              rw [hr9] at hres
              exact kf i _ b p t9 S9 hres hr hS9 hE
      exact loop n 0 a1 s1 t1 S (by omega) (by rw [Nat.add_zero, Nat.zero_add]) hr0 hS hE0
    · have hW : ¬ mw_W (ha 5) M := fun r => by
        rw [hv.mpr r] at q30
        cases q30
      refine x_throw (bc' := 0) (bs' := 0) hP u6_33 rfl rfl ?_
      exact k3 q7 hW
  · refine x_throw (bc' := 0) (bs' := 0) hP u6_10 rfl rfl ?_
    exact k1 q7
