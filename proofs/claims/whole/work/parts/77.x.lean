/-! THE CLASS: the methods that throw. (rows by gen/sp32.py) -/
theorem xp0 {d : Nat} {K : xm_K} {h : am_H} {x y z : Int32} (kin : mi_cell x y z = true → K (.inl none) h) (kout : mi_cell x y z = false → K (.inr 0) h) : xm_Run (d + 10) 0 [.int x, .int y, .int z] h K := by
  refine ⟨rfl, by omega, fun P hm hP => ?_⟩
  show P 0 [some (.int x), some (.int y), some (.int z)] [] _ 1 6
  refine x_iload_n hP u0_0 rfl ?_
  refine x_iload_n hP u0_1 rfl ?_
  refine x_iload_n hP u0_2 rfl ?_
  refine x_invokestatic (bc' := 1) (bs' := 6) hP u0_3 rfl rfl rfl rfl rfl ?_
  refine sp85 ?_
  refine x_zne hP u0_6 (fun q6 => ?_) (fun q6 => ?_)
  · refine x_return_ hP u0_19 rfl ?_
    exact kin q6
  · refine x_throw (bc' := 0) (bs' := 0) hP u0_9 rfl rfl ?_
    exact kout q6
set_option maxHeartbeats 2000000 in
theorem xp7 {d : Nat} {K : xm_K} {ha : Nat → Nat → Int32} {hz : Int32} {a1 : Nat → Nat → Int32} {s1 : Nat → Int32} {t1 : UInt32} {a2 : Nat → Nat → Int32} {s2 : Nat → Int32} {t2 : UInt32} {al : Int32} {ma : Nat → Nat → Int32} {ms : Nat → Int32} {mt : UInt32} {ol : Nat → Int64} {od : Nat → UInt64} {x : Int32} (kin : mi_iw x 0 7 = true → K (.inl (some (.int (a1 2 x.toNatClampNeg)))) (am_W ha hz a1 s1 t1 a2 s2 t2 al ma ms mt ol od)) (kout : mi_iw x 0 7 = false → K (.inr 1) (am_W ha hz a1 s1 t1 a2 s2 t2 al ma ms mt ol od)) : xm_Run (d + 10) 7 [.ref 0, .int x] (am_W ha hz a1 s1 t1 a2 s2 t2 al ma ms mt ol od) K := by
  refine ⟨rfl, by omega, fun P hm hP => ?_⟩
  show P 0 [some (.ref 0), some (.int x)] [] _ 1 6
  refine x_iload_n hP u7_0 rfl ?_
  refine x_iconst (v := 0) hP u7_1 (by decide) ?_
  refine x_bipush (v := 7) hP u7_2 (by decide) ?_
  refine x_invokestatic (bc' := 1) (bs' := 6) hP u7_4 rfl rfl rfl rfl rfl ?_
  refine sp84 ?_
  refine x_zne hP u7_7 (fun q7 => ?_) (fun q7 => ?_)
  · refine x_aload_n hP u7_20 rfl ?_
    refine x_getfield hP u7_21 rfl rfl ?_
    refine x_getfield hP u7_24 rfl rfl ?_
    refine x_iload_n hP u7_27 rfl ?_
    refine x_iaload hP u7_28 rfl (mi_iw_in (N := 7) rfl (by decide) q7) ?_
    refine x_ireturn hP u7_29 rfl rfl ?_
    exact kin q7
  · refine x_throw (bc' := 0) (bs' := 0) hP u7_10 rfl rfl ?_
    exact kout q7
set_option maxHeartbeats 2000000 in
theorem xp8 {d : Nat} {K : xm_K} {ha : Nat → Nat → Int32} {hz : Int32} {a1 : Nat → Nat → Int32} {s1 : Nat → Int32} {t1 : UInt32} {a2 : Nat → Nat → Int32} {s2 : Nat → Int32} {t2 : UInt32} {al : Int32} {ma : Nat → Nat → Int32} {ms : Nat → Int32} {mt : UInt32} {ol : Nat → Int64} {od : Nat → UInt64} {x : Int32} (kin : mi_iw x 0 2 = true → K (.inl (some (.int (a1 3 x.toNatClampNeg)))) (am_W ha hz a1 s1 t1 a2 s2 t2 al ma ms mt ol od)) (kout : mi_iw x 0 2 = false → K (.inr 1) (am_W ha hz a1 s1 t1 a2 s2 t2 al ma ms mt ol od)) : xm_Run (d + 10) 8 [.ref 0, .int x] (am_W ha hz a1 s1 t1 a2 s2 t2 al ma ms mt ol od) K := by
  refine ⟨rfl, by omega, fun P hm hP => ?_⟩
  show P 0 [some (.ref 0), some (.int x)] [] _ 1 6
  refine x_iload_n hP u8_0 rfl ?_
  refine x_iconst (v := 0) hP u8_1 (by decide) ?_
  refine x_iconst (v := 2) hP u8_2 (by decide) ?_
  refine x_invokestatic (bc' := 1) (bs' := 6) hP u8_3 rfl rfl rfl rfl rfl ?_
  refine sp84 ?_
  refine x_zne hP u8_6 (fun q6 => ?_) (fun q6 => ?_)
  · refine x_aload_n hP u8_19 rfl ?_
    refine x_getfield hP u8_20 rfl rfl ?_
    refine x_getfield hP u8_23 rfl rfl ?_
    refine x_iload_n hP u8_26 rfl ?_
    refine x_iaload hP u8_27 rfl (mi_iw_in (N := 2) rfl (by decide) q6) ?_
    refine x_ireturn hP u8_28 rfl rfl ?_
    exact kin q6
  · refine x_throw (bc' := 0) (bs' := 0) hP u8_9 rfl rfl ?_
    exact kout q6
set_option maxHeartbeats 2000000 in
theorem xp9 {d : Nat} {K : xm_K} {ha : Nat → Nat → Int32} {hz : Int32} {a1 : Nat → Nat → Int32} {s1 : Nat → Int32} {t1 : UInt32} {a2 : Nat → Nat → Int32} {s2 : Nat → Int32} {t2 : UInt32} {al : Int32} {ma : Nat → Nat → Int32} {ms : Nat → Int32} {mt : UInt32} {ol : Nat → Int64} {od : Nat → UInt64} {x y : Int32} (k0 : ∀ A B, A < 3 → B < 4 → x = nI A → y = nI B → ¬ ha 0 (4 * A + B) = 0 → K (.inl (some (.int (a1 1 (4 * A + B))))) (am_W ha hz a1 s1 t1 a2 s2 t2 al ma ms mt ol od)) (k1 : mi_slot x y = false → K (.inr 0) (am_W ha hz a1 s1 t1 a2 s2 t2 al ma ms mt ol od)) (k2 : ∀ A B, A < 3 → B < 4 → x = nI A → y = nI B → ha 0 (4 * A + B) = 0 → K (.inr 4) (am_W ha hz a1 s1 t1 a2 s2 t2 al ma ms mt ol od)) : xm_Run (d + 10) 9 [.ref 0, .int x, .int y] (am_W ha hz a1 s1 t1 a2 s2 t2 al ma ms mt ol od) K := by
  refine ⟨rfl, by omega, fun P hm hP => ?_⟩
  show P 0 [some (.ref 0), some (.int x), some (.int y), none] [] _ 1 6
  refine x_iload_n hP u9_0 rfl ?_
  refine x_iload_n hP u9_1 rfl ?_
  refine x_invokestatic (bc' := 1) (bs' := 6) hP u9_2 rfl rfl rfl rfl rfl ?_
  refine sp87 ?_
  refine x_zne hP u9_5 (fun q5 => ?_) (fun q5 => ?_)
  · obtain ⟨A, B, hA, hB, rfl, rfl⟩ := mi_slot_nI q5
    refine x_iload_n hP u9_18 rfl ?_
    refine x_iload_n hP u9_19 rfl ?_
    refine x_invokestatic (bc' := 1) (bs' := 6) hP u9_20 rfl rfl rfl rfl rfl ?_
    refine sp88 ?_
    rw [mi_slotN]
    refine x_istore_n_3 hP u9_23 (by exact rfl) ?_
    refine x_aload_n hP u9_24 rfl ?_
    refine x_getfield hP u9_25 rfl rfl ?_
    refine x_getfield hP u9_28 rfl rfl ?_
    refine x_iload_n hP u9_31 rfl ?_
    refine x_invokevirtual (bc' := 1) (bs' := 6) hP u9_32 rfl rfl rfl rfl rfl ?_
    refine sp58 rfl rfl rfl ?_
    rw [nI_clamp (by omega), mi_iw11 (by omega), Bool.true_and]
    refine x_zne hP u9_35 (fun q35 => ?_) (fun q35 => ?_)
    · have e35 : ¬ ha 0 (4 * A + B) = 0 := of_decide_eq_true q35
      refine x_aload_n hP u9_48 rfl ?_
      refine x_getfield hP u9_49 rfl rfl ?_
      refine x_getfield hP u9_52 rfl rfl ?_
      refine x_iload_n hP u9_55 rfl ?_
      refine x_iaload hP u9_56 rfl (vp_in_nI (by omega) (by decide)) ?_
      rw [nI_clamp (by omega)]
      refine x_ireturn hP u9_57 rfl rfl ?_
      exact k0 A B hA hB rfl rfl e35
    · have e35 : ha 0 (4 * A + B) = 0 := Classical.not_not.mp (of_decide_eq_false q35)
      refine x_throw (bc' := 0) (bs' := 0) hP u9_38 rfl rfl ?_
      exact k2 A B hA hB rfl rfl e35
  · refine x_throw (bc' := 0) (bs' := 0) hP u9_8 rfl rfl ?_
    exact k1 q5
set_option maxHeartbeats 4000000 in
theorem xp1 {d : Nat} {K : xm_K} {ha : Nat → Nat → Int32} {hz : Int32} {a1 : Nat → Nat → Int32} {s1 : Nat → Int32} {t1 : UInt32} {a2 : Nat → Nat → Int32} {s2 : Nat → Int32} {t2 : UInt32} {al : Int32} {ma : Nat → Nat → Int32} {ms : Nat → Int32} {mt : UInt32} {ol : Nat → Int64} {od : Nat → UInt64} {x y z r l : Int32} (kin : ∀ A C, A < 3 → C < 4 → x = nI A → y = nI C → mi_shape z = true → mi_iw r 0 3 = true → mi_iw l 1 999 = true → mi_takes x z = true → ∀ g u v : Nat → Int32, (∀ j, j < 72 → g j = 65535) → (∀ j, j < 12 → u j = 0) → (∀ j, j < 8 → v j = 0) → K (.inl (some (.int (nI (mr_cnt 4 (fun j => mi_fil (upd (ha 0) (4 * A + C) z) (nI (4 * A + 0) + nI j))))))) (am_W (am_u2 (am_u2 (am_u2 ha 0 (upd (ha 0) (4 * A + C) z)) 1 (upd (ha 1) (4 * A + C) r)) 2 (upd (ha 2) (4 * A + C) l)) hz (mc_a0 a1 g u v) (mc_s0 s1) FP.fconst0 a2 s2 t2 45 ma ms mt ol od)) (k0 : mi_slot x y = false → K (.inr 0) (am_W ha hz a1 s1 t1 a2 s2 t2 al ma ms mt ol od)) (k1 : (mi_shape z && (mi_iw r 0 3 && mi_iw l 1 999)) = false → K (.inr 1) (am_W ha hz a1 s1 t1 a2 s2 t2 al ma ms mt ol od)) (k2 : mi_shape z = true → mi_iw r 0 3 = true → mi_iw l 1 999 = true → mi_takes x z = false → K (.inr 2) (am_W ha hz a1 s1 t1 a2 s2 t2 al ma ms mt ol od)) : xm_Run (d + 10) 1 [.ref 0, .int x, .int y, .int z, .int r, .int l] (am_W ha hz a1 s1 t1 a2 s2 t2 al ma ms mt ol od) K := by
  refine ⟨rfl, by omega, fun P hm hP => ?_⟩
  show P 0 [some (.ref 0), some (.int x), some (.int y), some (.int z), some (.int r), some (.int l)] [] _ 1 6
  refine x_iload_n hP u1_0 rfl ?_
  refine x_iload_n hP u1_1 rfl ?_
  refine x_invokestatic (bc' := 1) (bs' := 6) hP u1_2 rfl rfl rfl rfl rfl ?_
  refine sp87 ?_
  refine x_zne hP u1_5 (fun q5 => ?_) (fun q5 => ?_)
  · obtain ⟨A, C, hA, hC, rfl, rfl⟩ := mi_slot_nI q5
    refine x_iload_n hP u1_18 rfl ?_
    refine x_invokestatic (bc' := 1) (bs' := 6) hP u1_19 rfl rfl rfl rfl rfl ?_
    refine sp89 ?_
    refine x_zne hP u1_22 (fun q22 => ?_) (fun q22 => ?_)
    · refine x_iload hP u1_35 rfl ?_
      refine x_iconst (v := 0) hP u1_37 (by decide) ?_
      refine x_iconst (v := 3) hP u1_38 (by decide) ?_
      refine x_invokestatic (bc' := 1) (bs' := 6) hP u1_39 rfl rfl rfl rfl rfl ?_
      refine sp84 ?_
      refine x_zeq hP u1_42 (fun q42 => ?_) (fun q42 => ?_)
      · refine x_throw (bc' := 0) (bs' := 0) hP u1_57 rfl rfl ?_
        exact k1 (by rw [q22, q42]; rfl)
      · refine x_iload hP u1_45 rfl ?_
        refine x_iconst (v := 1) hP u1_47 (by decide) ?_
        refine x_sipush (v := 999) hP u1_48 (by decide) ?_
        refine x_invokestatic (bc' := 1) (bs' := 6) hP u1_51 rfl rfl rfl rfl rfl ?_
        refine sp84 ?_
        refine x_zne hP u1_54 (fun q54 => ?_) (fun q54 => ?_)
        · refine x_iload_n hP u1_67 rfl ?_
          refine x_iload_n hP u1_68 rfl ?_
          refine x_invokestatic (bc' := 1) (bs' := 6) hP u1_69 rfl rfl rfl rfl rfl ?_
          refine sp90 ?_
          refine x_zne hP u1_72 (fun q72 => ?_) (fun q72 => ?_)
          · refine x_aload_n hP u1_85 rfl ?_
            refine x_getfield hP u1_86 rfl rfl ?_
            refine x_getfield hP u1_89 rfl rfl ?_
            refine x_iload_n hP u1_92 rfl ?_
            refine x_iload_n hP u1_93 rfl ?_
            refine x_invokestatic (bc' := 1) (bs' := 6) hP u1_94 rfl rfl rfl rfl rfl ?_
            refine sp88 ?_
            rw [mi_slotN]
            refine x_iload_n hP u1_97 rfl ?_
            refine x_iload hP u1_98 rfl ?_
            refine x_iload hP u1_100 rfl ?_
            refine x_invokevirtual (bc' := 1) (bs' := 6) hP u1_102 rfl rfl rfl rfl rfl ?_
            refine sp57 (by omega) q22 ?_
            refine x_aload_n hP u1_105 rfl ?_
            refine x_invokevirtual (bc' := 1) (bs' := 6) hP u1_106 rfl rfl rfl rfl rfl ?_
            refine sp83 (ha := (am_u2 (am_u2 (am_u2 ha 0 (upd (ha 0) (4 * A + C) z)) 1 (upd (ha 1) (4 * A + C) r)) 2 (upd (ha 2) (4 * A + C) l))) (fun g u v hg hu hv => ?_)
            refine x_aload_n hP u1_109 rfl ?_
            refine x_getfield hP u1_110 rfl rfl ?_
            refine x_getfield hP u1_113 rfl rfl ?_
            refine x_iload_n hP u1_116 rfl ?_
            refine x_iconst (v := 0) hP u1_117 (by decide) ?_
            refine x_invokestatic (bc' := 1) (bs' := 6) hP u1_118 rfl rfl rfl rfl rfl ?_
            refine sp88 ?_
            rw [show (4 : Int32) * nI A + 0 = nI (4 * A + 0) from mi_slotN (A := A) (B := 0)]
            refine x_iconst (v := 4) hP u1_121 (by decide) ?_
            refine x_invokevirtual (bc' := 1) (bs' := 6) hP u1_122 rfl rfl rfl rfl rfl ?_
            refine sp59 (f1 := upd (ha 0) (4 * A + C) z) (N := 4) rfl rfl rfl (by decide) ?_
            refine x_ireturn hP u1_125 rfl rfl ?_
            exact kin A C hA hC rfl rfl q22 q42 q54 q72 g u v hg hu hv
          · refine x_throw (bc' := 0) (bs' := 0) hP u1_75 rfl rfl ?_
            exact k2 q22 q42 q54 q72
        · refine x_throw (bc' := 0) (bs' := 0) hP u1_57 rfl rfl ?_
          exact k1 (by rw [q22, q42, q54]; rfl)
    · refine x_throw (bc' := 0) (bs' := 0) hP u1_25 rfl rfl ?_
      exact k1 (by rw [q22]; rfl)
  · refine x_throw (bc' := 0) (bs' := 0) hP u1_8 rfl rfl ?_
    exact k0 q5
set_option maxHeartbeats 2000000 in
theorem xp10 {d : Nat} {K : xm_K} {ha : Nat → Nat → Int32} {hz : Int32} {a1 : Nat → Nat → Int32} {s1 : Nat → Int32} {t1 : UInt32} {a2 : Nat → Nat → Int32} {s2 : Nat → Int32} {t2 : UInt32} {al : Int32} {ma : Nat → Nat → Int32} {ms : Nat → Int32} {mt : UInt32} {ol : Nat → Int64} {od : Nat → UInt64} {S : Nat → Bool} (hS : ∀ j, j < 72 → a1 0 j = mr_w (fun q => S (16 * j + q))) {x y z : Int32} (kin : ∀ X Y Z, X < 16 → Y < 12 → Z < 6 → x = nI X → y = nI Y → z = nI Z → K (.inl (some (.int (am_b (S (X + 16 * Y + 192 * Z)))))) (am_W ha hz a1 s1 t1 a2 s2 t2 al ma ms mt ol od)) (kout : mi_cell x y z = false → K (.inr 0) (am_W ha hz a1 s1 t1 a2 s2 t2 al ma ms mt ol od)) : xm_Run (d + 12) 10 [.ref 0, .int x, .int y, .int z] (am_W ha hz a1 s1 t1 a2 s2 t2 al ma ms mt ol od) K := by
  refine ⟨rfl, by omega, fun P hm hP => ?_⟩
  show P 0 [some (.ref 0), some (.int x), some (.int y), some (.int z)] [] _ 1 6
  refine x_iload_n hP u10_0 rfl ?_
  refine x_iload_n hP u10_1 rfl ?_
  refine x_iload_n hP u10_2 rfl ?_
  refine x_callS (bc' := 0) (bs' := 0) hP u10_3 rfl rfl rfl rfl ?_
  refine xp0 (fun hc => ?_) (fun hc => ?_)
  · obtain ⟨X, Y, Z, hX, hY, hZ, rfl, rfl, rfl⟩ := mi_cell_nI hc
    refine x_aload_n hP u10_6 rfl ?_
    refine x_getfield hP u10_7 rfl rfl ?_
    refine x_getfield hP u10_10 rfl rfl ?_
    refine x_iload_n hP u10_13 rfl ?_
    refine x_iload_n hP u10_14 rfl ?_
    refine x_iload_n hP u10_15 rfl ?_
    refine x_invokevirtual (bc' := 0) (bs' := 0) hP u10_16 rfl rfl rfl rfl rfl ?_
    refine sp2 (a := 16) (b := 17) rfl rfl hS (fun X9 Y9 Z9 h1 h2 h3 h4 h5 h6 => ?_) (fun h => absurd (hc.symm.trans h) (by decide))
    obtain rfl : X = X9 := (nI_inj (by omega) (by omega)).mp h4
    obtain rfl : Y = Y9 := (nI_inj (by omega) (by omega)).mp h5
    obtain rfl : Z = Z9 := (nI_inj (by omega) (by omega)).mp h6
    refine x_ireturn hP u10_19 rfl (am_nar_b _) ?_
    exact kin X Y Z hX hY hZ rfl rfl rfl
  · exact ⟨rfl, kout hc⟩
set_option maxHeartbeats 4000000 in
theorem xp11 {d : Nat} {K : xm_K} {ha : Nat → Nat → Int32} {hz : Int32} {a1 : Nat → Nat → Int32} {s1 : Nat → Int32} {t1 : UInt32} {a2 : Nat → Nat → Int32} {s2 : Nat → Int32} {t2 : UInt32} {al : Int32} {ma : Nat → Nat → Int32} {ms : Nat → Int32} {mt : UInt32} {ol : Nat → Int64} {od : Nat → UInt64} {T : Nat → Bool} {M D : Nat} (hH : sx_H ha hz T M) (hWD : 0 < D → mw_W (ha 5) M) (hr : sx_run ha hz T M D) (hD : D < 1000000) {S : Nat → Bool} (hS0 : ∀ j, j < 72 → a1 0 j = mr_w (fun q => S (16 * j + q))) (hE : sx_E (ha 5) (sx_N (sx_it ha hz D sx_0)) (sx_it ha hz D sx_0) (a1, s1, t1, S)) {x y z : Int32} (kin : ∀ (b : Nat → Nat → Int32) (p : Nat → Int32) (t9 : UInt32) X Y Z, X < 16 → Y < 12 → Z < 6 → x = nI X → y = nI Y → z = nI Z → K (.inl (some (.int (am_b (S (X + 16 * Y + 192 * Z)))))) (am_W ha hz a1 s1 t1 b p t9 al ma ms mt ol od)) (kout : mi_cell x y z = false → K (.inr 0) (am_W ha hz a1 s1 t1 a2 s2 t2 al ma ms mt ol od)) : xm_Run (d + 12) 11 [.ref 0, .int x, .int y, .int z] (am_W ha hz a1 s1 t1 a2 s2 t2 al ma ms mt ol od) K := by
  refine ⟨rfl, by omega, fun P hm hP => ?_⟩
  show P 0 [some (.ref 0), some (.int x), some (.int y), some (.int z)] [] _ 1 6
  refine x_iload_n hP u11_0 rfl ?_
  refine x_iload_n hP u11_1 rfl ?_
  refine x_iload_n hP u11_2 rfl ?_
  refine x_callS (bc' := 0) (bs' := 0) hP u11_3 rfl rfl rfl rfl ?_
  refine xp0 (fun hc => ?_) (fun hc => ?_)
  · obtain ⟨X, Y, Z, hX, hY, hZ, rfl, rfl, rfl⟩ := mi_cell_nI hc
    refine x_aload_n hP u11_6 rfl ?_
    refine x_getfield hP u11_7 rfl rfl ?_
    refine x_aload_n hP u11_10 rfl ?_
    refine x_getfield hP u11_11 rfl rfl ?_
    refine x_getfield hP u11_14 rfl rfl ?_
    refine x_invokevirtual (bc' := 0) (bs' := 0) hP u11_17 rfl rfl rfl rfl rfl ?_
    have hs9 : s1 9 = nI D := (hE.2.2.2.2.1 9 (by omega) (by omega) (by omega)).symm.trans (sx_it_9 D)
    rw [hs9]
    refine sp15_2 hH hWD hr hD (fun b p t9 S9 hS hE9 => ?_)
    have eS : ∀ q, q < 1152 → S q = S9 q := fun q hq => (hE.2.2.2.2.2.2 q hq).symm.trans (hE9.2.2.2.2.2.2 q hq)
    refine x_aload_n hP u11_20 rfl ?_
    refine x_getfield hP u11_21 rfl rfl ?_
    refine x_getfield hP u11_24 rfl rfl ?_
    refine x_iload_n hP u11_27 rfl ?_
    refine x_iload_n hP u11_28 rfl ?_
    refine x_iload_n hP u11_29 rfl ?_
    refine x_invokevirtual (bc' := 0) (bs' := 0) hP u11_30 rfl rfl rfl rfl rfl ?_
    refine sp2 (a := 28) (b := 29) rfl rfl hS (fun X9 Y9 Z9 h1 h2 h3 h4 h5 h6 => ?_) (fun h => absurd (hc.symm.trans h) (by decide))
    obtain rfl : X = X9 := (nI_inj (by omega) (by omega)).mp h4
    obtain rfl : Y = Y9 := (nI_inj (by omega) (by omega)).mp h5
    obtain rfl : Z = Z9 := (nI_inj (by omega) (by omega)).mp h6
    refine x_ireturn hP u11_33 rfl (am_nar_b _) ?_
    rw [← eS _ (by omega)]
    exact kin b p t9 X Y Z hX hY hZ rfl rfl rfl
  · exact ⟨rfl, kout hc⟩
set_option maxHeartbeats 4000000 in
theorem xp2 {d : Nat} {K : xm_K} {ha : Nat → Nat → Int32} {hz : Int32} {a1 : Nat → Nat → Int32} {s1 : Nat → Int32} {t1 : UInt32} {a2 : Nat → Nat → Int32} {s2 : Nat → Int32} {t2 : UInt32} {al : Int32} {ma : Nat → Nat → Int32} {ms : Nat → Int32} {mt : UInt32} {ol : Nat → Int64} {od : Nat → UInt64} {T : Nat → Bool} (hS : ∀ j, j < 72 → ha 3 j = mr_w (fun q => T (16 * j + q))) {x y z : Int32} {v : Bool} (kin : ∀ X Y Z, X < 16 → Y < 12 → Z < 6 → x = nI X → y = nI Y → z = nI Z → ∀ r : Nat → Int32, (∀ j, j < 72 → r j = mr_w (fun q => cond (decide (16 * j + q = X + 16 * Y + 192 * Z)) v (T (16 * j + q)))) → ∀ g u w : Nat → Int32, (∀ j, j < 72 → g j = 65535) → (∀ j, j < 12 → u j = 0) → (∀ j, j < 8 → w j = 0) → K (.inl (some (.int (am_b (T (X + 16 * Y + 192 * Z)))))) (am_W (am_u2 ha 3 r) hz (mc_a0 a1 g u w) (mc_s0 s1) FP.fconst0 a2 s2 t2 45 ma ms mt ol od)) (kout : mi_cell x y z = false → K (.inr 0) (am_W ha hz a1 s1 t1 a2 s2 t2 al ma ms mt ol od)) : xm_Run (d + 12) 2 [.ref 0, .int x, .int y, .int z, .int (am_b v)] (am_W ha hz a1 s1 t1 a2 s2 t2 al ma ms mt ol od) K := by
  refine ⟨rfl, by omega, fun P hm hP => ?_⟩
  show P 0 [some (.ref 0), some (.int x), some (.int y), some (.int z), some (.int (am_b v)), none] [] _ 1 6
  refine x_iload_n hP u2_0 rfl ?_
  refine x_iload_n hP u2_1 rfl ?_
  refine x_iload_n hP u2_2 rfl ?_
  refine x_callS (bc' := 0) (bs' := 0) hP u2_3 rfl rfl rfl rfl ?_
  refine xp0 (fun hc => ?_) (fun hc => ?_)
  · obtain ⟨X, Y, Z, hX, hY, hZ, rfl, rfl, rfl⟩ := mi_cell_nI hc
    refine x_aload_n hP u2_6 rfl ?_
    refine x_getfield hP u2_7 rfl rfl ?_
    refine x_getfield hP u2_10 rfl rfl ?_
    refine x_iload_n hP u2_13 rfl ?_
    refine x_iload_n hP u2_14 rfl ?_
    refine x_iload_n hP u2_15 rfl ?_
    refine x_invokevirtual (bc' := 0) (bs' := 0) hP u2_16 rfl rfl rfl rfl rfl ?_
    refine sp2 (a := 6) (b := 7) rfl rfl hS (fun X9 Y9 Z9 h1 h2 h3 h4 h5 h6 => ?_) (fun h => absurd (hc.symm.trans h) (by decide))
    obtain rfl : X = X9 := (nI_inj (by omega) (by omega)).mp h4
    obtain rfl : Y = Y9 := (nI_inj (by omega) (by omega)).mp h5
    obtain rfl : Z = Z9 := (nI_inj (by omega) (by omega)).mp h6
    refine x_istore_5 hP u2_19 (by exact rfl) ?_
    refine x_aload_n hP u2_21 rfl ?_
    refine x_getfield hP u2_22 rfl rfl ?_
    refine x_getfield hP u2_25 rfl rfl ?_
    refine x_iload_n hP u2_28 rfl ?_
    refine x_iload_n hP u2_29 rfl ?_
    refine x_iload_n hP u2_30 rfl ?_
    refine x_iload hP u2_31 rfl ?_
    refine x_invokevirtual (bc' := 0) (bs' := 0) hP u2_33 rfl rfl rfl rfl rfl ?_
    refine sp3 (a := 6) (b := 7) (f := ha 3) rfl rfl rfl (by decide) hS hX hY hZ hc (fun r hr => ?_)
    refine x_aload_n hP u2_36 rfl ?_
    refine x_invokevirtual (bc' := 0) (bs' := 0) hP u2_37 rfl rfl rfl rfl rfl ?_
    refine sp83 (ha := am_u2 ha 3 r) (fun g u w hg hu hw => ?_)
    refine x_iload hP u2_40 rfl ?_
    refine x_ireturn hP u2_42 rfl (am_nar_b _) ?_
    exact kin X Y Z hX hY hZ rfl rfl rfl r hr g u w hg hu hw
  · exact ⟨rfl, kout hc⟩
set_option maxHeartbeats 4000000 in
theorem xp13 {d : Nat} {K : xm_K} {ha : Nat → Nat → Int32} {hz : Int32} {a1 : Nat → Nat → Int32} {s1 : Nat → Int32} {t1 : UInt32} {a2 : Nat → Nat → Int32} {s2 : Nat → Int32} {t2 : UInt32} {al : Int32} {ma : Nat → Nat → Int32} {ms : Nat → Int32} {mt : UInt32} {ol : Nat → Int64} {od : Nat → UInt64} (hn : ¬ mr_cnt 12 (fun j => mi_fil (ha 0) (0 + nI j)) = 0 → vf_n64 (FP.ddiv (FP.i2d (mi_sum 12 (a1 1))) (FP.i2d (nI (mr_cnt 12 (fun j => mi_fil (ha 0) (0 + nI j))))))) (k0 : mr_cnt 12 (fun j => mi_fil (ha 0) (0 + nI j)) = 0 → K (.inr 5) (am_W ha hz a1 s1 t1 a2 s2 t2 al ma ms mt ol od)) (k1 : ¬ mr_cnt 12 (fun j => mi_fil (ha 0) (0 + nI j)) = 0 → K (.inl (some (.double (FP.ddiv (FP.i2d (mi_sum 12 (a1 1))) (FP.i2d (nI (mr_cnt 12 (fun j => mi_fil (ha 0) (0 + nI j))))))))) (am_W ha hz a1 s1 t1 a2 s2 t2 al ma ms mt ol od)) : xm_Run (d + 10) 13 [.ref 0] (am_W ha hz a1 s1 t1 a2 s2 t2 al ma ms mt ol od) K := by
  refine ⟨rfl, by omega, fun P hm hP => ?_⟩
  show P 0 [some (.ref 0), none] [] _ 1 6
  refine x_aload_n hP u13_0 rfl ?_
  refine x_getfield hP u13_1 rfl rfl ?_
  refine x_getfield hP u13_4 rfl rfl ?_
  refine x_iconst (v := 0) hP u13_7 (by decide) ?_
  refine x_bipush (v := 12) hP u13_8 (by decide) ?_
  refine x_invokevirtual (bc' := 1) (bs' := 6) hP u13_10 rfl rfl rfl rfl rfl ?_
  refine sp59 (f1 := ha 0) (N := 12) rfl rfl rfl (by decide) ?_
  refine x_istore_n_1 hP u13_13 (by exact rfl) ?_
  refine x_iload_n hP u13_14 rfl ?_
  refine x_if_ne hP u13_15 (fun q15 => ?_) (fun q15 => ?_)
  · have e15 : ¬ mr_cnt 12 (fun j => mi_fil (ha 0) (0 + nI j)) = 0 := fun q => q15 (by rw [q]; rfl)
    refine x_aload_n hP u13_28 rfl ?_
    refine x_getfield hP u13_29 rfl rfl ?_
    refine x_invokevirtual (bc' := 1) (bs' := 6) hP u13_32 rfl rfl rfl rfl rfl ?_
    refine sp14_1 ?_
    refine x_i2d hP u13_35 ?_
    refine x_iload_n hP u13_36 rfl ?_
    refine x_i2d hP u13_37 ?_
    refine x_ddiv hP u13_38 (hn e15) ?_
    refine x_dreturn hP u13_39 rfl ?_
    exact k1 e15
  · have e15 : mr_cnt 12 (fun j => mi_fil (ha 0) (0 + nI j)) = 0 := (nI_inj (b := 0) (by have := mr_cnt_le 12 (fun j => mi_fil (ha 0) (0 + nI j)); omega) (by decide)).mp q15
    refine x_throw (bc' := 0) (bs' := 0) hP u13_18 rfl rfl ?_
    exact k0 e15
set_option maxHeartbeats 4000000 in
theorem xp5 {d : Nat} {K : xm_K} {ha : Nat → Nat → Int32} {hz : Int32} {a1 : Nat → Nat → Int32} {s1 : Nat → Int32} {t1 : UInt32} {a2 : Nat → Nat → Int32} {s2 : Nat → Int32} {t2 : UInt32} {al : Int32} {ma : Nat → Nat → Int32} {ms : Nat → Int32} {mt : UInt32} {ol : Nat → Int64} {od : Nat → UInt64} {M : Nat} (hM : hz = nI M) (hM9 : M ≤ 64) (kin : ∀ n, M = n + 1 → ∀ g u v : Nat → Int32, (∀ j, j < 72 → g j = 65535) → (∀ j, j < 12 → u j = 0) → (∀ j, j < 8 → v j = 0) → K (.inl (some (.int (nI n)))) (am_W (mp_rem ha n) (nI n) (mc_a0 a1 g u v) (mc_s0 s1) FP.fconst0 a2 s2 t2 45 ma ms mt ol od)) (kout : hz = 0 → K (.inr 3) (am_W ha hz a1 s1 t1 a2 s2 t2 al ma ms mt ol od)) : xm_Run (d + 10) 5 [.ref 0] (am_W ha hz a1 s1 t1 a2 s2 t2 al ma ms mt ol od) K := by
  refine ⟨rfl, by omega, fun P hm hP => ?_⟩
  show P 0 [some (.ref 0)] [] _ 1 6
  refine x_aload_n hP u5_0 rfl ?_
  refine x_getfield hP u5_1 rfl rfl ?_
  refine x_getfield hP u5_4 rfl rfl ?_
  refine x_getfield hP u5_7 rfl rfl ?_
  refine x_if_ne hP u5_10 (fun q10 => ?_) (fun q10 => ?_)
  · obtain ⟨n, rfl⟩ : ∃ n, M = n + 1 := ⟨M - 1, by have : M ≠ 0 := fun q => q10 (by rw [hM, q]; rfl); omega⟩
    have hn9 : hz = nI (n + 1) := hM
    refine x_aload_n hP u5_23 rfl ?_
    refine x_getfield hP u5_24 rfl rfl ?_
    refine x_getfield hP u5_27 rfl rfl ?_
    refine x_invokevirtual (bc' := 1) (bs' := 6) hP u5_30 rfl rfl rfl rfl rfl ?_
    refine sp52 hn9 (by omega) ?_
    refine x_aload_n hP u5_33 rfl ?_
    refine x_invokevirtual (bc' := 1) (bs' := 6) hP u5_34 rfl rfl rfl rfl rfl ?_
    refine sp83 (ha := mp_rem ha n) (hz := nI n) (fun g u v hg hu hv => ?_)
    refine x_aload_n hP u5_37 rfl ?_
    refine x_getfield hP u5_38 rfl rfl ?_
    refine x_getfield hP u5_41 rfl rfl ?_
    refine x_getfield hP u5_44 rfl rfl ?_
    refine x_ireturn hP u5_47 rfl rfl ?_
    exact kin n rfl g u v hg hu hv
  · refine x_throw (bc' := 0) (bs' := 0) hP u5_13 rfl rfl ?_
    exact kout q10
set_option maxHeartbeats 4000000 in
theorem xp4 {d : Nat} {K : xm_K} {ha : Nat → Nat → Int32} {hz : Int32} {a1 : Nat → Nat → Int32} {s1 : Nat → Int32} {t1 : UInt32} {a2 : Nat → Nat → Int32} {s2 : Nat → Int32} {t2 : UInt32} {al : Int32} {ma : Nat → Nat → Int32} {ms : Nat → Int32} {mt : UInt32} {ol : Nat → Int64} {od : Nat → UInt64} {M : Nat} (hM : hz = nI M) (hM9 : M ≤ 64) {x y z u9 : Int32} (kin : M < 64 → mi_kind x = true → mi_term y = true → mi_term z = true → mi_term u9 = true → ∀ g u v : Nat → Int32, (∀ j, j < 72 → g j = 65535) → (∀ j, j < 12 → u j = 0) → (∀ j, j < 8 → v j = 0) → K (.inl (some (.int (nI M)))) (am_W (mp_app ha M x y z u9) (nI (M + 1)) (mc_a0 a1 g u v) (mc_s0 s1) FP.fconst0 a2 s2 t2 45 ma ms mt ol od)) (k1 : (mi_kind x && (mi_term y && (mi_term z && mi_term u9))) = false → K (.inr 1) (am_W ha hz a1 s1 t1 a2 s2 t2 al ma ms mt ol od)) (k2 : M = 64 → mi_kind x = true → mi_term y = true → mi_term z = true → mi_term u9 = true → K (.inr 3) (am_W ha hz a1 s1 t1 a2 s2 t2 al ma ms mt ol od)) : xm_Run (d + 10) 4 [.ref 0, .int x, .int y, .int z, .int u9] (am_W ha hz a1 s1 t1 a2 s2 t2 al ma ms mt ol od) K := by
  refine ⟨rfl, by omega, fun P hm hP => ?_⟩
  show P 0 [some (.ref 0), some (.int x), some (.int y), some (.int z), some (.int u9)] [] _ 1 6
  refine x_iload_n hP u4_0 rfl ?_
  refine x_invokestatic (bc' := 1) (bs' := 6) hP u4_1 rfl rfl rfl rfl rfl ?_
  refine sp92 ?_
  refine x_zeq hP u4_4 (fun q4 => ?_) (fun q4 => ?_)
  · refine x_throw (bc' := 0) (bs' := 0) hP u4_29 rfl rfl ?_
    exact k1 (by rw [q4]; rfl)
  · refine x_iload_n hP u4_7 rfl ?_
    refine x_invokestatic (bc' := 1) (bs' := 6) hP u4_8 rfl rfl rfl rfl rfl ?_
    refine sp93 ?_
    refine x_zeq hP u4_11 (fun q11 => ?_) (fun q11 => ?_)
    · refine x_throw (bc' := 0) (bs' := 0) hP u4_29 rfl rfl ?_
      exact k1 (by rw [q4, q11]; rfl)
    · refine x_iload_n hP u4_14 rfl ?_
      refine x_invokestatic (bc' := 1) (bs' := 6) hP u4_15 rfl rfl rfl rfl rfl ?_
      refine sp93 ?_
      refine x_zeq hP u4_18 (fun q18 => ?_) (fun q18 => ?_)
      · refine x_throw (bc' := 0) (bs' := 0) hP u4_29 rfl rfl ?_
        exact k1 (by rw [q4, q11, q18]; rfl)
      · refine x_iload hP u4_21 rfl ?_
        refine x_invokestatic (bc' := 1) (bs' := 6) hP u4_23 rfl rfl rfl rfl rfl ?_
        refine sp93 ?_
        refine x_zne hP u4_26 (fun q26 => ?_) (fun q26 => ?_)
        · refine x_aload_n hP u4_39 rfl ?_
          refine x_getfield hP u4_40 rfl rfl ?_
          refine x_getfield hP u4_43 rfl rfl ?_
          refine x_getfield hP u4_46 rfl rfl ?_
          refine x_bipush (v := 64) hP u4_49 (by decide) ?_
          refine x_icmp_lt hP u4_51 (fun q51 => ?_) (fun q51 => ?_)
          · have e51 : M < 64 := Nat.lt_of_not_le (fun q => absurd q51 (Int32.not_lt.mpr (by rw [hM]; exact nI_le (a := 64) q (by omega))))
            refine x_aload_n hP u4_64 rfl ?_
            refine x_getfield hP u4_65 rfl rfl ?_
            refine x_getfield hP u4_68 rfl rfl ?_
            refine x_iload_n hP u4_71 rfl ?_
            refine x_iload_n hP u4_72 rfl ?_
            refine x_iload_n hP u4_73 rfl ?_
            refine x_iload hP u4_74 rfl ?_
            refine x_invokevirtual (bc' := 1) (bs' := 6) hP u4_76 rfl rfl rfl rfl rfl ?_
            refine sp50 hM (by omega) ?_
            refine x_aload_n hP u4_79 rfl ?_
            refine x_invokevirtual (bc' := 1) (bs' := 6) hP u4_80 rfl rfl rfl rfl rfl ?_
            refine sp83 (ha := mp_app ha M x y z u9) (hz := nI (M + 1)) (fun g u v hg hu hv => ?_)
            refine x_aload_n hP u4_83 rfl ?_
            refine x_getfield hP u4_84 rfl rfl ?_
            refine x_getfield hP u4_87 rfl rfl ?_
            refine x_getfield hP u4_90 rfl rfl ?_
            refine x_iconst (v := 1) hP u4_93 (by decide) ?_
            refine x_isub hP u4_94 ?_
            rw [show nI (M + 1) - 1 = nI M from nI_pred M]
            refine x_ireturn hP u4_95 rfl rfl ?_
            exact kin e51 q4 q11 q18 q26 g u v hg hu hv
          · have e51 : M = 64 := by
              rcases Nat.lt_or_ge M 64 with h | h
              · exact absurd (by rw [hM]; exact nI_lt h (by decide)) q51
              · omega
            refine x_throw (bc' := 0) (bs' := 0) hP u4_54 rfl rfl ?_
            exact k2 e51 q4 q11 q18 q26
        · refine x_throw (bc' := 0) (bs' := 0) hP u4_29 rfl rfl ?_
          exact k1 (by rw [q4, q11, q18, q26]; rfl)
set_option maxHeartbeats 4000000 in
theorem xp3 {d : Nat} {K : xm_K} {ha : Nat → Nat → Int32} {hz : Int32} {a1 : Nat → Nat → Int32} {s1 : Nat → Int32} {t1 : UInt32} {a2 : Nat → Nat → Int32} {s2 : Nat → Int32} {t2 : UInt32} {al : Int32} {ma : Nat → Nat → Int32} {ms : Nat → Int32} {mt : UInt32} {ol : Nat → Int64} {od : Nat → UInt64} {x y z w9 : Int32} (kin : ∀ A, A < 4 → x = nI A → mi_iw y (-15) 15 = true → mi_iw z (-15) 15 = true → mi_iw w9 (-15) 15 = true → ∀ g u v : Nat → Int32, (∀ j, j < 72 → g j = 65535) → (∀ j, j < 12 → u j = 0) → (∀ j, j < 8 → v j = 0) → K (.inl (some (.int (ha 4 (3 * A))))) (am_W (am_u2 ha 4 (mp_3 (ha 4) (3 * A) y z w9)) hz (mc_a0 a1 g u v) (mc_s0 s1) FP.fconst0 a2 s2 t2 45 ma ms mt ol od)) (kout : (mi_iw x 0 3 && (mi_iw y (-15) 15 && (mi_iw z (-15) 15 && mi_iw w9 (-15) 15))) = false → K (.inr 1) (am_W ha hz a1 s1 t1 a2 s2 t2 al ma ms mt ol od)) : xm_Run (d + 10) 3 [.ref 0, .int x, .int y, .int z, .int w9] (am_W ha hz a1 s1 t1 a2 s2 t2 al ma ms mt ol od) K := by
  refine ⟨rfl, by omega, fun P hm hP => ?_⟩
  show P 0 [some (.ref 0), some (.int x), some (.int y), some (.int z), some (.int w9), none] [] _ 1 6
  refine x_iload_n hP u3_0 rfl ?_
  refine x_iconst (v := 0) hP u3_1 (by decide) ?_
  refine x_iconst (v := 3) hP u3_2 (by decide) ?_
  refine x_invokestatic (bc' := 1) (bs' := 6) hP u3_3 rfl rfl rfl rfl rfl ?_
  refine sp84 ?_
  refine x_zeq hP u3_6 (fun q6 => ?_) (fun q6 => ?_)
  · refine x_throw (bc' := 0) (bs' := 0) hP u3_31 rfl rfl ?_
    exact kout (by rw [q6]; rfl)
  · obtain ⟨A, hA, rfl⟩ := mi_iw_nI (N := 3) rfl (by decide) q6
    refine x_iload_n hP u3_9 rfl ?_
    refine x_invokestatic (bc' := 1) (bs' := 6) hP u3_10 rfl rfl rfl rfl rfl ?_
    refine sp91 ?_
    refine x_zeq hP u3_13 (fun q13 => ?_) (fun q13 => ?_)
    · refine x_throw (bc' := 0) (bs' := 0) hP u3_31 rfl rfl ?_
      exact kout (by rw [q6, q13]; rfl)
    · refine x_iload_n hP u3_16 rfl ?_
      refine x_invokestatic (bc' := 1) (bs' := 6) hP u3_17 rfl rfl rfl rfl rfl ?_
      refine sp91 ?_
      refine x_zeq hP u3_20 (fun q20 => ?_) (fun q20 => ?_)
      · refine x_throw (bc' := 0) (bs' := 0) hP u3_31 rfl rfl ?_
        exact kout (by rw [q6, q13, q20]; rfl)
      · refine x_iload hP u3_23 rfl ?_
        refine x_invokestatic (bc' := 1) (bs' := 6) hP u3_25 rfl rfl rfl rfl rfl ?_
        refine sp91 ?_
        refine x_zne hP u3_28 (fun q28 => ?_) (fun q28 => ?_)
        · refine x_aload_n hP u3_41 rfl ?_
          refine x_getfield hP u3_42 rfl rfl ?_
          refine x_getfield hP u3_45 rfl rfl ?_
          refine x_iload_n hP u3_48 rfl ?_
          refine x_iconst (v := 3) hP u3_49 (by decide) ?_
          refine x_imul hP u3_50 ?_
          rw [mp_3i]
          refine x_iaload hP u3_51 rfl (vp_in_nI (by omega) (by decide)) ?_
          rw [nI_clamp (by omega)]
          refine x_istore_5 hP u3_52 (by exact rfl) ?_
          refine x_aload_n hP u3_54 rfl ?_
          refine x_getfield hP u3_55 rfl rfl ?_
          refine x_getfield hP u3_58 rfl rfl ?_
          refine x_iload_n hP u3_61 rfl ?_
          refine x_iconst (v := 3) hP u3_62 (by decide) ?_
          refine x_imul hP u3_63 ?_
          rw [mp_3i]
          refine x_iload_n hP u3_64 rfl ?_
          refine x_iastore hP u3_65 rfl (vp_in_nI (by omega) (by decide)) ?_
          rw [nI_clamp (by omega)]
          refine x_aload_n hP u3_66 rfl ?_
          refine x_getfield hP u3_67 rfl rfl ?_
          refine x_getfield hP u3_70 rfl rfl ?_
          refine x_iload_n hP u3_73 rfl ?_
          refine x_iconst (v := 3) hP u3_74 (by decide) ?_
          refine x_imul hP u3_75 ?_
          rw [mp_3i]
          refine x_iconst (v := 1) hP u3_76 (by decide) ?_
          refine x_iadd hP u3_77 ?_
          rw [nI_1]
          refine x_iload_n hP u3_78 rfl ?_
          refine x_iastore hP u3_79 rfl (vp_in_nI (by omega) (by decide)) ?_
          rw [nI_clamp (by omega)]
          refine x_aload_n hP u3_80 rfl ?_
          refine x_getfield hP u3_81 rfl rfl ?_
          refine x_getfield hP u3_84 rfl rfl ?_
          refine x_iload_n hP u3_87 rfl ?_
          refine x_iconst (v := 3) hP u3_88 (by decide) ?_
          refine x_imul hP u3_89 ?_
          rw [mp_3i]
          refine x_iconst (v := 2) hP u3_90 (by decide) ?_
          refine x_iadd hP u3_91 ?_
          rw [show nI (3 * A) + 2 = nI (3 * A + 2) from nI_add (3 * A) 2]
          refine x_iload hP u3_92 rfl ?_
          refine x_iastore hP u3_94 rfl (vp_in_nI (by omega) (by decide)) ?_
          rw [nI_clamp (by omega)]
          refine x_aload_n hP u3_95 rfl ?_
          refine x_invokevirtual (bc' := 1) (bs' := 6) hP u3_96 rfl rfl rfl rfl rfl ?_
          refine sp83 (ha := am_u2 ha 4 (mp_3 (ha 4) (3 * A) y z w9)) (fun g u v hg hu hv => ?_)
          refine x_iload hP u3_99 rfl ?_
          refine x_ireturn hP u3_101 rfl rfl ?_
          exact kin A (by omega) rfl q13 q20 q28 g u v hg hu hv
        · refine x_throw (bc' := 0) (bs' := 0) hP u3_31 rfl rfl ?_
          exact kout (by rw [q6, q13, q20, q28]; rfl)
