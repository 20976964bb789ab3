/-! THE LAW'S HELPERS. (rows by gen/sp37.py) -/
set_option maxHeartbeats 4000000 in
theorem xh14 {d : Nat} {K : xm_K} {ha : Nat → Nat → Int32} {hz : Int32} {a1 : Nat → Nat → Int32} {s1 : Nat → Int32} {t1 : UInt32} {a2 : Nat → Nat → Int32} {s2 : Nat → Int32} {t2 : UInt32} {al : Int32} {ma : Nat → Nat → Int32} {ms : Nat → Int32} {mt : UInt32} {ol : Nat → Int64} {od : Nat → UInt64} {x y z r l : Int32} (kin : ∀ A C, A < 3 → C < 4 → x = nI A → y = nI C → mi_shape z = true → mi_iw r 0 3 = true → mi_iw l 1 999 = true → mi_takes x z = true → ∀ g u v : Nat → Int32, (∀ j, j < 72 → g j = 65535) → (∀ j, j < 12 → u j = 0) → (∀ j, j < 8 → v j = 0) → K (.inl (some (.int 0))) (am_W (am_u2 (am_u2 (am_u2 ha 0 (upd (ha 0) (4 * A + C) z)) 1 (upd (ha 1) (4 * A + C) r)) 2 (upd (ha 2) (4 * A + C) l)) hz (mc_a0 a1 g u v) (mc_s0 s1) FP.fconst0 a2 s2 t2 45 ma ms mt (vp_updL ol 0 ((nI (mr_cnt 4 (fun j => mi_fil (upd (ha 0) (4 * A + C) z) (nI (4 * A + 0) + nI j))))).toInt64) od)) (k0 : mi_slot x y = false → K (.inl (some (.int 1))) (am_W ha hz a1 s1 t1 a2 s2 t2 al ma ms mt ol od)) (k1 : (mi_shape z && (mi_iw r 0 3 && mi_iw l 1 999)) = false → K (.inl (some (.int 2))) (am_W ha hz a1 s1 t1 a2 s2 t2 al ma ms mt ol od)) (k2 : mi_shape z = true → mi_iw r 0 3 = true → mi_iw l 1 999 = true → mi_takes x z = false → K (.inl (some (.int 3))) (am_W ha hz a1 s1 t1 a2 s2 t2 al ma ms mt ol od)) : xm_Run (d + 11) 14 [.ref 0, .int x, .int y, .int z, .int r, .int l, .ref 55] (am_W ha hz a1 s1 t1 a2 s2 t2 al ma ms mt ol od) K := by
  refine ⟨rfl, by omega, fun P hm hP => ?_⟩
  show P 0 [some (.ref 0), some (.int x), some (.int y), some (.int z), some (.int r), some (.int l), some (.ref 55), none] [] _ 1 6
  refine x_aload hP u14_0 rfl ?_
  refine x_iconst (v := 0) hP u14_2 (by decide) ?_
  refine x_aload_n hP u14_3 rfl ?_
  refine x_iload_n hP u14_4 rfl ?_
  refine x_iload_n hP u14_5 rfl ?_
  refine x_iload_n hP u14_6 rfl ?_
  refine x_iload hP u14_7 rfl ?_
  refine x_iload hP u14_9 rfl ?_
  refine x_callV (bc' := 0) (bs' := 0) hP u14_11 rfl rfl rfl rfl rfl ?_
  refine xp1 ?_ k0 k1 k2
  intro z1 z2 z3 z4 z5 z6 z7 z8 z9 z10 z11 z12 z13 z14 z15 z16
  refine x_i2l hP u14_14 ?_
  refine x_lastore hP u14_15 rfl (vp_in_nI (n := 0) (by decide) (by decide)) ?_
  refine x_goto hP u14_16 ?_
  refine x_iconst (v := 0) hP u14_31 (by decide) ?_
  refine x_ireturn hP u14_32 rfl rfl ?_
  exact kin z1 z2 z3 z4 z5 z6 z7 z8 z9 z10 z11 z12 z13 z14 z15 z16
set_option maxHeartbeats 4000000 in
theorem xh15 {d : Nat} {K : xm_K} {ha : Nat → Nat → Int32} {hz : Int32} {a1 : Nat → Nat → Int32} {s1 : Nat → Int32} {t1 : UInt32} {a2 : Nat → Nat → Int32} {s2 : Nat → Int32} {t2 : UInt32} {al : Int32} {ma : Nat → Nat → Int32} {ms : Nat → Int32} {mt : UInt32} {ol : Nat → Int64} {od : Nat → UInt64} {T : Nat → Bool} (hS : ∀ j, j < 72 → ha 3 j = mr_w (fun q => T (16 * j + q))) {x y z : Int32} {v : Bool} (kin : ∀ X Y Z, X < 16 → Y < 12 → Z < 6 → x = nI X → y = nI Y → z = nI Z → ∀ r : Nat → Int32, (∀ j, j < 72 → r j = mr_w (fun q => cond (decide (16 * j + q = X + 16 * Y + 192 * Z)) v (T (16 * j + q)))) → ∀ g u w : Nat → Int32, (∀ j, j < 72 → g j = 65535) → (∀ j, j < 12 → u j = 0) → (∀ j, j < 8 → w j = 0) → K (.inl (some (.int 0))) (am_W (am_u2 ha 3 r) hz (mc_a0 a1 g u w) (mc_s0 s1) FP.fconst0 a2 s2 t2 45 ma ms mt (vp_updL ol 0 (cond (T (X + 16 * Y + 192 * Z)) 1 0)) od)) (kout : mi_cell x y z = false → K (.inl (some (.int 1))) (am_W ha hz a1 s1 t1 a2 s2 t2 al ma ms mt ol od)) : xm_Run (d + 13) 15 [.ref 0, .int x, .int y, .int z, .int (am_b v), .ref 55] (am_W ha hz a1 s1 t1 a2 s2 t2 al ma ms mt ol od) K := by
  refine ⟨rfl, by omega, fun P hm hP => ?_⟩
  show P 0 [some (.ref 0), some (.int x), some (.int y), some (.int z), some (.int (am_b v)), some (.ref 55), none] [] _ 1 6
  refine x_aload hP u15_0 rfl ?_
  refine x_iconst (v := 0) hP u15_2 (by decide) ?_
  refine x_aload_n hP u15_3 rfl ?_
  refine x_iload_n hP u15_4 rfl ?_
  refine x_iload_n hP u15_5 rfl ?_
  refine x_iload_n hP u15_6 rfl ?_
  refine x_iload hP u15_7 rfl ?_
  refine x_callV (bc' := 0) (bs' := 0) hP u15_9 rfl rfl rfl rfl rfl ?_
  refine xp2 hS ?_ kout
  intro z1 z2 z3 z4 z5 z6 z7 z8 z9 z10 z11 z12 z13 z14 z15 z16 z17
  refine x_zeq hP u15_12 (fun q12 => ?_) (fun q12 => ?_)
  · refine x_lconst (v := 0) hP u15_19 (by decide) ?_
    refine x_lastore hP u15_20 rfl (vp_in_nI (n := 0) (by decide) (by decide)) ?_
    refine x_goto hP u15_21 ?_
    refine x_iconst (v := 0) hP u15_28 (by decide) ?_
    refine x_ireturn hP u15_29 rfl rfl ?_
    have k9 := kin z1 z2 z3 z4 z5 z6 z7 z8 z9 z10 z11 z12 z13 z14 z15 z16 z17
    rw [q12] at k9
    exact k9
  · refine x_lconst (v := 1) hP u15_15 (by decide) ?_
    refine x_goto hP u15_16 ?_
    refine x_lastore hP u15_20 rfl (vp_in_nI (n := 0) (by decide) (by decide)) ?_
    refine x_goto hP u15_21 ?_
    refine x_iconst (v := 0) hP u15_28 (by decide) ?_
    refine x_ireturn hP u15_29 rfl rfl ?_
    have k9 := kin z1 z2 z3 z4 z5 z6 z7 z8 z9 z10 z11 z12 z13 z14 z15 z16 z17
    rw [q12] at k9
    exact k9
set_option maxHeartbeats 4000000 in
theorem xh16 {d : Nat} {K : xm_K} {ha : Nat → Nat → Int32} {hz : Int32} {a1 : Nat → Nat → Int32} {s1 : Nat → Int32} {t1 : UInt32} {a2 : Nat → Nat → Int32} {s2 : Nat → Int32} {t2 : UInt32} {al : Int32} {ma : Nat → Nat → Int32} {ms : Nat → Int32} {mt : UInt32} {ol : Nat → Int64} {od : Nat → UInt64} {x y z w9 : Int32} (kin : ∀ A, A < 4 → x = nI A → mi_iw y (-15) 15 = true → mi_iw z (-15) 15 = true → mi_iw w9 (-15) 15 = true → ∀ g u v : Nat → Int32, (∀ j, j < 72 → g j = 65535) → (∀ j, j < 12 → u j = 0) → (∀ j, j < 8 → v j = 0) → K (.inl (some (.int 0))) (am_W (am_u2 ha 4 (mp_3 (ha 4) (3 * A) y z w9)) hz (mc_a0 a1 g u v) (mc_s0 s1) FP.fconst0 a2 s2 t2 45 ma ms mt (vp_updL ol 0 ((ha 4 (3 * A))).toInt64) od)) (kout : (mi_iw x 0 3 && (mi_iw y (-15) 15 && (mi_iw z (-15) 15 && mi_iw w9 (-15) 15))) = false → K (.inl (some (.int 1))) (am_W ha hz a1 s1 t1 a2 s2 t2 al ma ms mt ol od)) : xm_Run (d + 11) 16 [.ref 0, .int x, .int y, .int z, .int w9, .ref 55] (am_W ha hz a1 s1 t1 a2 s2 t2 al ma ms mt ol od) K := by
  refine ⟨rfl, by omega, fun P hm hP => ?_⟩
  show P 0 [some (.ref 0), some (.int x), some (.int y), some (.int z), some (.int w9), some (.ref 55), none] [] _ 1 6
  refine x_aload hP u16_0 rfl ?_
  refine x_iconst (v := 0) hP u16_2 (by decide) ?_
  refine x_aload_n hP u16_3 rfl ?_
  refine x_iload_n hP u16_4 rfl ?_
  refine x_iload_n hP u16_5 rfl ?_
  refine x_iload_n hP u16_6 rfl ?_
  refine x_iload hP u16_7 rfl ?_
  refine x_callV (bc' := 0) (bs' := 0) hP u16_9 rfl rfl rfl rfl rfl ?_
  refine xp3 ?_ kout
  intro z1 z2 z3 z4 z5 z6 z7 z8 z9 z10 z11 z12
  refine x_i2l hP u16_12 ?_
  refine x_lastore hP u16_13 rfl (vp_in_nI (n := 0) (by decide) (by decide)) ?_
  refine x_goto hP u16_14 ?_
  refine x_iconst (v := 0) hP u16_21 (by decide) ?_
  refine x_ireturn hP u16_22 rfl rfl ?_
  exact kin z1 z2 z3 z4 z5 z6 z7 z8 z9 z10 z11 z12
set_option maxHeartbeats 4000000 in
theorem xh17 {d : Nat} {K : xm_K} {ha : Nat → Nat → Int32} {hz : Int32} {a1 : Nat → Nat → Int32} {s1 : Nat → Int32} {t1 : UInt32} {a2 : Nat → Nat → Int32} {s2 : Nat → Int32} {t2 : UInt32} {al : Int32} {ma : Nat → Nat → Int32} {ms : Nat → Int32} {mt : UInt32} {ol : Nat → Int64} {od : Nat → UInt64} {M : Nat} (hM : hz = nI M) (hM9 : M ≤ 64) {x y z u9 : Int32} (kin : M < 64 → mi_kind x = true → mi_term y = true → mi_term z = true → mi_term u9 = true → ∀ g u v : Nat → Int32, (∀ j, j < 72 → g j = 65535) → (∀ j, j < 12 → u j = 0) → (∀ j, j < 8 → v j = 0) → K (.inl (some (.int 0))) (am_W (mp_app ha M x y z u9) (nI (M + 1)) (mc_a0 a1 g u v) (mc_s0 s1) FP.fconst0 a2 s2 t2 45 ma ms mt (vp_updL ol 0 ((nI M)).toInt64) od)) (k1 : (mi_kind x && (mi_term y && (mi_term z && mi_term u9))) = false → K (.inl (some (.int 1))) (am_W ha hz a1 s1 t1 a2 s2 t2 al ma ms mt ol od)) (k2 : M = 64 → mi_kind x = true → mi_term y = true → mi_term z = true → mi_term u9 = true → K (.inl (some (.int 2))) (am_W ha hz a1 s1 t1 a2 s2 t2 al ma ms mt ol od)) : xm_Run (d + 11) 17 [.ref 0, .int x, .int y, .int z, .int u9, .ref 55] (am_W ha hz a1 s1 t1 a2 s2 t2 al ma ms mt ol od) K := by
  refine ⟨rfl, by omega, fun P hm hP => ?_⟩
  show P 0 [some (.ref 0), some (.int x), some (.int y), some (.int z), some (.int u9), some (.ref 55), none] [] _ 1 6
  refine x_aload hP u17_0 rfl ?_
  refine x_iconst (v := 0) hP u17_2 (by decide) ?_
  refine x_aload_n hP u17_3 rfl ?_
  refine x_iload_n hP u17_4 rfl ?_
  refine x_iload_n hP u17_5 rfl ?_
  refine x_iload_n hP u17_6 rfl ?_
  refine x_iload hP u17_7 rfl ?_
  refine x_callV (bc' := 0) (bs' := 0) hP u17_9 rfl rfl rfl rfl rfl ?_
  refine xp4 hM hM9 ?_ k1 k2
  intro z1 z2 z3 z4 z5 z6 z7 z8 z9 z10 z11
  refine x_i2l hP u17_12 ?_
  refine x_lastore hP u17_13 rfl (vp_in_nI (n := 0) (by decide) (by decide)) ?_
  refine x_goto hP u17_14 ?_
  refine x_iconst (v := 0) hP u17_25 (by decide) ?_
  refine x_ireturn hP u17_26 rfl rfl ?_
  exact kin z1 z2 z3 z4 z5 z6 z7 z8 z9 z10 z11
set_option maxHeartbeats 4000000 in
theorem xh18 {d : Nat} {K : xm_K} {ha : Nat → Nat → Int32} {hz : Int32} {a1 : Nat → Nat → Int32} {s1 : Nat → Int32} {t1 : UInt32} {a2 : Nat → Nat → Int32} {s2 : Nat → Int32} {t2 : UInt32} {al : Int32} {ma : Nat → Nat → Int32} {ms : Nat → Int32} {mt : UInt32} {ol : Nat → Int64} {od : Nat → UInt64} {M : Nat} (hM : hz = nI M) (hM9 : M ≤ 64) (kin : ∀ n, M = n + 1 → ∀ g u v : Nat → Int32, (∀ j, j < 72 → g j = 65535) → (∀ j, j < 12 → u j = 0) → (∀ j, j < 8 → v j = 0) → K (.inl (some (.int 0))) (am_W (mp_rem ha n) (nI n) (mc_a0 a1 g u v) (mc_s0 s1) FP.fconst0 a2 s2 t2 45 ma ms mt (vp_updL ol 0 ((nI n)).toInt64) od)) (kout : hz = 0 → K (.inl (some (.int 1))) (am_W ha hz a1 s1 t1 a2 s2 t2 al ma ms mt ol od)) : xm_Run (d + 11) 18 [.ref 0, .ref 55] (am_W ha hz a1 s1 t1 a2 s2 t2 al ma ms mt ol od) K := by
  refine ⟨rfl, by omega, fun P hm hP => ?_⟩
  show P 0 [some (.ref 0), some (.ref 55), none] [] _ 1 6
  refine x_aload_n hP u18_0 rfl ?_
  refine x_iconst (v := 0) hP u18_1 (by decide) ?_
  refine x_aload_n hP u18_2 rfl ?_
  refine x_callV (bc' := 0) (bs' := 0) hP u18_3 rfl rfl rfl rfl rfl ?_
  refine xp5 hM hM9 ?_ kout
  intro z1 z2 z3 z4 z5 z6 z7 z8
  refine x_i2l hP u18_6 ?_
  refine x_lastore hP u18_7 rfl (vp_in_nI (n := 0) (by decide) (by decide)) ?_
  refine x_goto hP u18_8 ?_
  refine x_iconst (v := 0) hP u18_14 (by decide) ?_
  refine x_ireturn hP u18_15 rfl rfl ?_
  exact kin z1 z2 z3 z4 z5 z6 z7 z8
set_option maxHeartbeats 4000000 in
theorem xh19 {d : Nat} {K : xm_K} {ha : Nat → Nat → Int32} {hz : Int32} {a1 : Nat → Nat → Int32} {s1 : Nat → Int32} {t1 : UInt32} {a2 : Nat → Nat → Int32} {s2 : Nat → Int32} {t2 : UInt32} {al : Int32} {ma : Nat → Nat → Int32} {ms : Nat → Int32} {mt : UInt32} {ol : Nat → Int64} {od : Nat → UInt64} {x : Int32} {T : Nat → Bool} {M D : Nat} (hH : sx_H ha hz T M) (hr0 : sx_run ha hz T M D) {S : Nat → Bool} (hS : ∀ j, j < 72 → a1 0 j = mr_w (fun q => S (16 * j + q))) (hE0 : sx_E (ha 5) (sx_N (sx_it ha hz D sx_0)) (sx_it ha hz D sx_0) (a1, s1, t1, S)) (k1 : mi_iw x 1 100 = false → K (.inl (some (.int 1))) (am_W ha hz a1 s1 t1 a2 s2 t2 al ma ms mt ol od)) (k3 : mi_iw x 1 100 = true → ¬ mw_W (ha 5) M → K (.inl (some (.int 2))) (am_W ha hz a1 s1 t1 a2 s2 t2 al ma ms mt ol od)) (kf : ∀ n, x = nI n → 1 ≤ n → n ≤ 100 → mw_W (ha 5) M → ∀ (r : Nat) (v : Int32) (b : Nat → Nat → Int32) (p : Nat → Int32) (t9 : UInt32) (S9 : Nat → Bool), sx_res ha hz T M n D = (r, v) → sx_run ha hz T M (D + r) → (∀ j, j < 72 → b 0 j = mr_w (fun q => S9 (16 * j + q))) → sx_E (ha 5) (sx_N (sx_it ha hz (D + r) sx_0)) (sx_it ha hz (D + r) sx_0) (b, p, t9, S9) → K (.inl (some (.int 0))) (am_W ha hz b p t9 a2 s2 t2 v ma ms mt (vp_updL ol 0 ((nI r)).toInt64) od)) : xm_Run (d + 13) 19 [.ref 0, .int x, .ref 55] (am_W ha hz a1 s1 t1 a2 s2 t2 al ma ms mt ol od) K := by
  refine ⟨rfl, by omega, fun P hm hP => ?_⟩
  show P 0 [some (.ref 0), some (.int x), some (.ref 55), none] [] _ 1 6
  refine x_aload_n hP u19_0 rfl ?_
  refine x_iconst (v := 0) hP u19_1 (by decide) ?_
  refine x_aload_n hP u19_2 rfl ?_
  refine x_iload_n hP u19_3 rfl ?_
  refine x_callV (bc' := 0) (bs' := 0) hP u19_4 rfl rfl rfl rfl rfl ?_
  refine xp6 hH hr0 hS hE0 k1 k3 ?_
  intro z1 z2 z3 z4 z5 z6 z7 z8 z9 z10 z11 z12 z13 z14 z15
  refine x_i2l hP u19_7 ?_
  refine x_lastore hP u19_8 rfl (vp_in_nI (n := 0) (by decide) (by decide)) ?_
  refine x_goto hP u19_9 ?_
  refine x_iconst (v := 0) hP u19_18 (by decide) ?_
  refine x_ireturn hP u19_19 rfl rfl ?_
  exact kf z1 z2 z3 z4 z5 z6 z7 z8 z9 z10 z11 z12 z13 z14 z15
set_option maxHeartbeats 4000000 in
theorem xh20 {d : Nat} {K : xm_K} {ha : Nat → Nat → Int32} {hz : Int32} {a1 : Nat → Nat → Int32} {s1 : Nat → Int32} {t1 : UInt32} {a2 : Nat → Nat → Int32} {s2 : Nat → Int32} {t2 : UInt32} {al : Int32} {ma : Nat → Nat → Int32} {ms : Nat → Int32} {mt : UInt32} {ol : Nat → Int64} {od : Nat → UInt64} {x : Int32} (kin : mi_iw x 0 7 = true → K (.inl (some (.int 0))) (am_W ha hz a1 s1 t1 a2 s2 t2 al ma ms mt (vp_updL ol 0 ((a1 2 x.toNatClampNeg)).toInt64) od)) (kout : mi_iw x 0 7 = false → K (.inl (some (.int 1))) (am_W ha hz a1 s1 t1 a2 s2 t2 al ma ms mt ol od)) : xm_Run (d + 11) 20 [.ref 0, .int x, .ref 55] (am_W ha hz a1 s1 t1 a2 s2 t2 al ma ms mt ol od) K := by
  refine ⟨rfl, by omega, fun P hm hP => ?_⟩
  show P 0 [some (.ref 0), some (.int x), some (.ref 55), none] [] _ 1 6
  refine x_aload_n hP u20_0 rfl ?_
  refine x_iconst (v := 0) hP u20_1 (by decide) ?_
  refine x_aload_n hP u20_2 rfl ?_
  refine x_iload_n hP u20_3 rfl ?_
  refine x_callV (bc' := 0) (bs' := 0) hP u20_4 rfl rfl rfl rfl rfl ?_
  refine xp7 ?_ kout
  intro z1
  refine x_i2l hP u20_7 ?_
  refine x_lastore hP u20_8 rfl (vp_in_nI (n := 0) (by decide) (by decide)) ?_
  refine x_goto hP u20_9 ?_
  refine x_iconst (v := 0) hP u20_15 (by decide) ?_
  refine x_ireturn hP u20_16 rfl rfl ?_
  exact kin z1
set_option maxHeartbeats 4000000 in
theorem xh21 {d : Nat} {K : xm_K} {ha : Nat → Nat → Int32} {hz : Int32} {a1 : Nat → Nat → Int32} {s1 : Nat → Int32} {t1 : UInt32} {a2 : Nat → Nat → Int32} {s2 : Nat → Int32} {t2 : UInt32} {al : Int32} {ma : Nat → Nat → Int32} {ms : Nat → Int32} {mt : UInt32} {ol : Nat → Int64} {od : Nat → UInt64} {x : Int32} (kin : mi_iw x 0 2 = true → K (.inl (some (.int 0))) (am_W ha hz a1 s1 t1 a2 s2 t2 al ma ms mt (vp_updL ol 0 ((a1 3 x.toNatClampNeg)).toInt64) od)) (kout : mi_iw x 0 2 = false → K (.inl (some (.int 1))) (am_W ha hz a1 s1 t1 a2 s2 t2 al ma ms mt ol od)) : xm_Run (d + 11) 21 [.ref 0, .int x, .ref 55] (am_W ha hz a1 s1 t1 a2 s2 t2 al ma ms mt ol od) K := by
  refine ⟨rfl, by omega, fun P hm hP => ?_⟩
  show P 0 [some (.ref 0), some (.int x), some (.ref 55), none] [] _ 1 6
  refine x_aload_n hP u21_0 rfl ?_
  refine x_iconst (v := 0) hP u21_1 (by decide) ?_
  refine x_aload_n hP u21_2 rfl ?_
  refine x_iload_n hP u21_3 rfl ?_
  refine x_callV (bc' := 0) (bs' := 0) hP u21_4 rfl rfl rfl rfl rfl ?_
  refine xp8 ?_ kout
  intro z1
  refine x_i2l hP u21_7 ?_
  refine x_lastore hP u21_8 rfl (vp_in_nI (n := 0) (by decide) (by decide)) ?_
  refine x_goto hP u21_9 ?_
  refine x_iconst (v := 0) hP u21_15 (by decide) ?_
  refine x_ireturn hP u21_16 rfl rfl ?_
  exact kin z1
set_option maxHeartbeats 4000000 in
theorem xh22 {d : Nat} {K : xm_K} {ha : Nat → Nat → Int32} {hz : Int32} {a1 : Nat → Nat → Int32} {s1 : Nat → Int32} {t1 : UInt32} {a2 : Nat → Nat → Int32} {s2 : Nat → Int32} {t2 : UInt32} {al : Int32} {ma : Nat → Nat → Int32} {ms : Nat → Int32} {mt : UInt32} {ol : Nat → Int64} {od : Nat → UInt64} {x y : Int32} (k0 : ∀ A B, A < 3 → B < 4 → x = nI A → y = nI B → ¬ ha 0 (4 * A + B) = 0 → K (.inl (some (.int 0))) (am_W ha hz a1 s1 t1 a2 s2 t2 al ma ms mt (vp_updL ol 0 ((a1 1 (4 * A + B))).toInt64) od)) (k1 : mi_slot x y = false → K (.inl (some (.int 1))) (am_W ha hz a1 s1 t1 a2 s2 t2 al ma ms mt ol od)) (k2 : ∀ A B, A < 3 → B < 4 → x = nI A → y = nI B → ha 0 (4 * A + B) = 0 → K (.inl (some (.int 2))) (am_W ha hz a1 s1 t1 a2 s2 t2 al ma ms mt ol od)) : xm_Run (d + 11) 22 [.ref 0, .int x, .int y, .ref 55] (am_W ha hz a1 s1 t1 a2 s2 t2 al ma ms mt ol od) K := by
  refine ⟨rfl, by omega, fun P hm hP => ?_⟩
  show P 0 [some (.ref 0), some (.int x), some (.int y), some (.ref 55), none] [] _ 1 6
  refine x_aload_n hP u22_0 rfl ?_
  refine x_iconst (v := 0) hP u22_1 (by decide) ?_
  refine x_aload_n hP u22_2 rfl ?_
  refine x_iload_n hP u22_3 rfl ?_
  refine x_iload_n hP u22_4 rfl ?_
  refine x_callV (bc' := 0) (bs' := 0) hP u22_5 rfl rfl rfl rfl rfl ?_
  refine xp9 ?_ k1 k2
  intro z1 z2 z3 z4 z5 z6 z7
  refine x_i2l hP u22_8 ?_
  refine x_lastore hP u22_9 rfl (vp_in_nI (n := 0) (by decide) (by decide)) ?_
  refine x_goto hP u22_10 ?_
  refine x_iconst (v := 0) hP u22_21 (by decide) ?_
  refine x_ireturn hP u22_22 rfl rfl ?_
  exact k0 z1 z2 z3 z4 z5 z6 z7
set_option maxHeartbeats 4000000 in
theorem xh23 {d : Nat} {K : xm_K} {ha : Nat → Nat → Int32} {hz : Int32} {a1 : Nat → Nat → Int32} {s1 : Nat → Int32} {t1 : UInt32} {a2 : Nat → Nat → Int32} {s2 : Nat → Int32} {t2 : UInt32} {al : Int32} {ma : Nat → Nat → Int32} {ms : Nat → Int32} {mt : UInt32} {ol : Nat → Int64} {od : Nat → UInt64} {S : Nat → Bool} (hS : ∀ j, j < 72 → a1 0 j = mr_w (fun q => S (16 * j + q))) {x y z : Int32} (kin : ∀ X Y Z, X < 16 → Y < 12 → Z < 6 → x = nI X → y = nI Y → z = nI Z → K (.inl (some (.int 0))) (am_W ha hz a1 s1 t1 a2 s2 t2 al ma ms mt (vp_updL ol 0 (cond (S (X + 16 * Y + 192 * Z)) 1 0)) od)) (kout : mi_cell x y z = false → K (.inl (some (.int 1))) (am_W ha hz a1 s1 t1 a2 s2 t2 al ma ms mt ol od)) : xm_Run (d + 13) 23 [.ref 0, .int x, .int y, .int z, .ref 55] (am_W ha hz a1 s1 t1 a2 s2 t2 al ma ms mt ol od) K := by
  refine ⟨rfl, by omega, fun P hm hP => ?_⟩
  show P 0 [some (.ref 0), some (.int x), some (.int y), some (.int z), some (.ref 55), none] [] _ 1 6
  refine x_aload hP u23_0 rfl ?_
  refine x_iconst (v := 0) hP u23_2 (by decide) ?_
  refine x_aload_n hP u23_3 rfl ?_
  refine x_iload_n hP u23_4 rfl ?_
  refine x_iload_n hP u23_5 rfl ?_
  refine x_iload_n hP u23_6 rfl ?_
  refine x_callV (bc' := 0) (bs' := 0) hP u23_7 rfl rfl rfl rfl rfl ?_
  refine xp10 hS ?_ kout
  intro z1 z2 z3 z4 z5 z6 z7 z8 z9
  refine x_zeq hP u23_10 (fun q10 => ?_) (fun q10 => ?_)
  · refine x_lconst (v := 0) hP u23_17 (by decide) ?_
    refine x_lastore hP u23_18 rfl (vp_in_nI (n := 0) (by decide) (by decide)) ?_
    refine x_goto hP u23_19 ?_
    refine x_iconst (v := 0) hP u23_26 (by decide) ?_
    refine x_ireturn hP u23_27 rfl rfl ?_
    have k9 := kin z1 z2 z3 z4 z5 z6 z7 z8 z9
    rw [q10] at k9
    exact k9
  · refine x_lconst (v := 1) hP u23_13 (by decide) ?_
    refine x_goto hP u23_14 ?_
    refine x_lastore hP u23_18 rfl (vp_in_nI (n := 0) (by decide) (by decide)) ?_
    refine x_goto hP u23_19 ?_
    refine x_iconst (v := 0) hP u23_26 (by decide) ?_
    refine x_ireturn hP u23_27 rfl rfl ?_
    have k9 := kin z1 z2 z3 z4 z5 z6 z7 z8 z9
    rw [q10] at k9
    exact k9
set_option maxHeartbeats 4000000 in
theorem xh24 {d : Nat} {K : xm_K} {ha : Nat → Nat → Int32} {hz : Int32} {a1 : Nat → Nat → Int32} {s1 : Nat → Int32} {t1 : UInt32} {a2 : Nat → Nat → Int32} {s2 : Nat → Int32} {t2 : UInt32} {al : Int32} {ma : Nat → Nat → Int32} {ms : Nat → Int32} {mt : UInt32} {ol : Nat → Int64} {od : Nat → UInt64} {T : Nat → Bool} {M D : Nat} (hH : sx_H ha hz T M) (hWD : 0 < D → mw_W (ha 5) M) (hr : sx_run ha hz T M D) (hD : D < 1000000) {S : Nat → Bool} (hS0 : ∀ j, j < 72 → a1 0 j = mr_w (fun q => S (16 * j + q))) (hE : sx_E (ha 5) (sx_N (sx_it ha hz D sx_0)) (sx_it ha hz D sx_0) (a1, s1, t1, S)) {x y z : Int32} (kin : ∀ (b : Nat → Nat → Int32) (p : Nat → Int32) (t9 : UInt32) X Y Z, X < 16 → Y < 12 → Z < 6 → x = nI X → y = nI Y → z = nI Z → K (.inl (some (.int 0))) (am_W ha hz a1 s1 t1 b p t9 al ma ms mt (vp_updL ol 0 (cond (S (X + 16 * Y + 192 * Z)) 1 0)) od)) (kout : mi_cell x y z = false → K (.inl (some (.int 1))) (am_W ha hz a1 s1 t1 a2 s2 t2 al ma ms mt ol od)) : xm_Run (d + 13) 24 [.ref 0, .int x, .int y, .int z, .ref 55] (am_W ha hz a1 s1 t1 a2 s2 t2 al ma ms mt ol od) K := by
  refine ⟨rfl, by omega, fun P hm hP => ?_⟩
  show P 0 [some (.ref 0), some (.int x), some (.int y), some (.int z), some (.ref 55), none] [] _ 1 6
  refine x_aload hP u24_0 rfl ?_
  refine x_iconst (v := 0) hP u24_2 (by decide) ?_
  refine x_aload_n hP u24_3 rfl ?_
  refine x_iload_n hP u24_4 rfl ?_
  refine x_iload_n hP u24_5 rfl ?_
  refine x_iload_n hP u24_6 rfl ?_
  refine x_callV (bc' := 0) (bs' := 0) hP u24_7 rfl rfl rfl rfl rfl ?_
  refine xp11 hH hWD hr hD hS0 hE ?_ kout
  intro z1 z2 z3 z4 z5 z6 z7 z8 z9 z10 z11 z12
  refine x_zeq hP u24_10 (fun q10 => ?_) (fun q10 => ?_)
  · refine x_lconst (v := 0) hP u24_17 (by decide) ?_
    refine x_lastore hP u24_18 rfl (vp_in_nI (n := 0) (by decide) (by decide)) ?_
    refine x_goto hP u24_19 ?_
    refine x_iconst (v := 0) hP u24_26 (by decide) ?_
    refine x_ireturn hP u24_27 rfl rfl ?_
    have k9 := kin z1 z2 z3 z4 z5 z6 z7 z8 z9 z10 z11 z12
    rw [q10] at k9
    exact k9
  · refine x_lconst (v := 1) hP u24_13 (by decide) ?_
    refine x_goto hP u24_14 ?_
    refine x_lastore hP u24_18 rfl (vp_in_nI (n := 0) (by decide) (by decide)) ?_
    refine x_goto hP u24_19 ?_
    refine x_iconst (v := 0) hP u24_26 (by decide) ?_
    refine x_ireturn hP u24_27 rfl rfl ?_
    have k9 := kin z1 z2 z3 z4 z5 z6 z7 z8 z9 z10 z11 z12
    rw [q10] at k9
    exact k9
set_option maxHeartbeats 4000000 in
theorem xh25 {d : Nat} {K : xm_K} {ha : Nat → Nat → Int32} {hz : Int32} {a1 : Nat → Nat → Int32} {s1 : Nat → Int32} {t1 : UInt32} {a2 : Nat → Nat → Int32} {s2 : Nat → Int32} {t2 : UInt32} {al : Int32} {ma : Nat → Nat → Int32} {ms : Nat → Int32} {mt : UInt32} {ol : Nat → Int64} {od : Nat → UInt64} {S : Nat → Bool} (hS : ∀ j, j < 72 → a1 0 j = mr_w (fun q => S (16 * j + q))) {x y : Int32} (kin : ∀ X Y, X < 16 → Y < 12 → x = nI X → y = nI Y → K (.inl (some (.int 0))) (am_W ha hz a1 s1 t1 a2 s2 t2 al ma ms mt (vp_updL ol 0 ((nI (mt_hgt S X Y 6))).toInt64) od)) (kout : mi_cell x y 0 = false → K (.inl (some (.int 1))) (am_W ha hz a1 s1 t1 a2 s2 t2 al ma ms mt ol od)) : xm_Run (d + 13) 25 [.ref 0, .int x, .int y, .ref 55] (am_W ha hz a1 s1 t1 a2 s2 t2 al ma ms mt ol od) K := by
  refine ⟨rfl, by omega, fun P hm hP => ?_⟩
  show P 0 [some (.ref 0), some (.int x), some (.int y), some (.ref 55), none] [] _ 1 6
  refine x_aload_n hP u25_0 rfl ?_
  refine x_iconst (v := 0) hP u25_1 (by decide) ?_
  refine x_aload_n hP u25_2 rfl ?_
  refine x_iload_n hP u25_3 rfl ?_
  refine x_iload_n hP u25_4 rfl ?_
  refine x_callV (bc' := 0) (bs' := 0) hP u25_5 rfl rfl rfl rfl rfl ?_
  refine xp12 hS ?_ kout
  intro z1 z2 z3 z4 z5 z6
  refine x_i2l hP u25_8 ?_
  refine x_lastore hP u25_9 rfl (vp_in_nI (n := 0) (by decide) (by decide)) ?_
  refine x_goto hP u25_10 ?_
  refine x_iconst (v := 0) hP u25_17 (by decide) ?_
  refine x_ireturn hP u25_18 rfl rfl ?_
  exact kin z1 z2 z3 z4 z5 z6
set_option maxHeartbeats 4000000 in
theorem xh26 {d : Nat} {K : xm_K} {ha : Nat → Nat → Int32} {hz : Int32} {a1 : Nat → Nat → Int32} {s1 : Nat → Int32} {t1 : UInt32} {a2 : Nat → Nat → Int32} {s2 : Nat → Int32} {t2 : UInt32} {al : Int32} {ma : Nat → Nat → Int32} {ms : Nat → Int32} {mt : UInt32} {ol : Nat → Int64} {od : Nat → UInt64} (hn : ¬ mr_cnt 12 (fun j => mi_fil (ha 0) (0 + nI j)) = 0 → vf_n64 (FP.ddiv (FP.i2d (mi_sum 12 (a1 1))) (FP.i2d (nI (mr_cnt 12 (fun j => mi_fil (ha 0) (0 + nI j))))))) (k0 : mr_cnt 12 (fun j => mi_fil (ha 0) (0 + nI j)) = 0 → K (.inl (some (.int 1))) (am_W ha hz a1 s1 t1 a2 s2 t2 al ma ms mt ol od)) (k1 : ¬ mr_cnt 12 (fun j => mi_fil (ha 0) (0 + nI j)) = 0 → K (.inl (some (.int 0))) (am_W ha hz a1 s1 t1 a2 s2 t2 al ma ms mt ol (vf_upd od 0 (FP.ddiv (FP.i2d (mi_sum 12 (a1 1))) (FP.i2d (nI (mr_cnt 12 (fun j => mi_fil (ha 0) (0 + nI j))))))))) : xm_Run (d + 11) 26 [.ref 0, .ref 56] (am_W ha hz a1 s1 t1 a2 s2 t2 al ma ms mt ol od) K := by
  refine ⟨rfl, by omega, fun P hm hP => ?_⟩
  show P 0 [some (.ref 0), some (.ref 56), none] [] _ 1 6
  refine x_aload_n hP u26_0 rfl ?_
  refine x_iconst (v := 0) hP u26_1 (by decide) ?_
  refine x_aload_n hP u26_2 rfl ?_
  refine x_callV (bc' := 0) (bs' := 0) hP u26_3 rfl rfl rfl rfl rfl ?_
  refine xp13 hn k0 ?_
  intro z1
  refine x_dastore hP u26_6 rfl (vp_in_nI (n := 0) (by decide) (by decide)) ?_
  refine x_goto hP u26_7 ?_
  refine x_iconst (v := 0) hP u26_13 (by decide) ?_
  refine x_ireturn hP u26_14 rfl rfl ?_
  exact k1 z1
