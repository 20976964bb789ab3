/-! THE LAW'S GROUPS: taken, meanUse. (rows by gen/sp47.py) -/
theorem lw_dc {x y : UInt64} (h : x = y) (h2 : FP.dcmp y y = some .eq) (op : CmpOp) : Op.cmpValue (FP.dcmp x y) op = 0 := by
  subst h
  rw [h2]
  rfl
theorem lw_cnt12 {f m : Nat → Int32} (h : ∀ d, d < 12 → (m d = 45 ↔ f d = 0)) : mr_cnt 12 (fun j => mi_fil f (0 + nI j)) = mr_cnt 12 (fun j => !decide (m j = 45)) := by
  refine mr_cnt_cg 12 (fun j hj => ?_)
  show mi_fil f (nI 0 + nI j) = !decide (m j = 45)
  rw [nI_add, mi_fil, Nat.zero_add, mi_iw11 (by omega), Bool.true_and, nI_clamp (by omega), decide_not]
  exact congrArg (!·) (decide_eq_decide.mpr (h _ (by omega)).symm)
set_option maxHeartbeats 4000000 in
theorem xw_1332 {P : am_P} (hm : am_mono P) {L : Nat} {xs : Nat → Int32} (hP : xm_HP (some (L, xs)) 15 27 xl_K P) {ha : Nat → Nat → Int32} {hz : Int32} {a1 : Nat → Nat → Int32} {s1 : Nat → Int32} {t1 : UInt32} {a2 : Nat → Nat → Int32} {s2 : Nat → Int32} {t2 : UInt32} {al : Int32} {ma : Nat → Nat → Int32} {ms : Nat → Int32} {mt : UInt32} {ol : Nat → Int64} {od : Nat → UInt64} {g : Nat} (hg : 6 * g + 6 ≤ L) (hL : L ≤ 3072) (hI : lw_I g ha hz a1 s1 t1 al ma ms mt) {bc bs : Nat} (hbc : 512 - g ≤ bc) (hbs : 6 * (512 - g) ≤ bs) (hn : ∀ (ha : Nat → Nat → Int32) (hz : Int32) (a1 : Nat → Nat → Int32) (s1 : Nat → Int32) (t1 : UInt32) (a2 : Nat → Nat → Int32) (s2 : Nat → Int32) (t2 : UInt32) (al : Int32) (ma : Nat → Nat → Int32) (ms : Nat → Int32) (mt : UInt32) (ol : Nat → Int64) (od : Nat → UInt64), lw_I (g + 1) ha hz a1 s1 t1 al ma ms mt → ∀ bc bs : Nat, 511 - g ≤ bc → 6 * (511 - g) ≤ bs → P 28 [some (.ref 1500), some (.ref 0), some (.ref 39), some (.ref 55), some (.ref 56), some (.int (nI (6 * (g + 1)))), none, none, none, none] [] (am_W ha hz a1 s1 t1 a2 s2 t2 al ma ms mt ol od) bc bs) : P 1332 [some (.ref 1500), some (.ref 0), some (.ref 39), some (.ref 55), some (.ref 56), some (.int (nI (6 * g))), none, none, none, none] [] (am_W ha hz a1 s1 t1 a2 s2 t2 al ma ms mt ol od) bc bs := by
  obtain ⟨T, M, D, S, hH, hh, hr, hWD, hS, hE, hD, hV, e8, e9, e10, et, eu, ev, ep, hB⟩ := lw_both hI
  obtain ⟨-, -, -, -, -, -, -, -, -, -, -, hal, hnar, -⟩ := id hI
  have ft := fe_taken (n := 1152 - mr_cnt 1152 S) (by omega)
  have fy := ft.2 (if mr_cnt 1152 S < 1152 - mr_cnt 1152 S then FP.fneg (FP.fdiv (FP.i2f (nI (1152 - mr_cnt 1152 S))) 1150287872) else (FP.fdiv (FP.i2f (nI (1152 - mr_cnt 1152 S))) 1150287872)) (by
    split
    · exact Or.inl rfl
    · exact Or.inr rfl)
  refine x_aload_n hP u27_1332 rfl ?_
  refine x_invokevirtual (bc' := bc) (bs' := bs) hP u27_1333 rfl rfl rfl rfl rfl ?_
  refine sp81 hS ft.1 ?_
  refine x_f2d hP u27_1336 fy.1 ?_
  refine x_dstore_6 hP u27_1337 (by exact rfl) ?_
  refine x_aload_n hP u27_1339 rfl ?_
  refine x_invokevirtual (bc' := bc) (bs' := bs) hP u27_1340 rfl rfl rfl rfl rfl ?_
  refine sp153 hB ft.1 ?_
  refine x_f2d hP u27_1343 fy.1 ?_
  refine x_dstore_8 hP u27_1344 (by exact rfl) ?_
  refine x_dload hP u27_1346 rfl ?_
  refine x_dload hP u27_1348 rfl ?_
  refine x_dcmp hP u27_1350 ?_
  refine x_if_eq hP u27_1351 (fun q1351 => ?_) (fun q1351 => ?_)
  · refine x_goto hP u27_1372 ?_
    refine x_iinc_5 (v := 6) hP u27_1388 (by decide) (by exact rfl) ?_
    refine x_goto hP u27_1391 ?_
    rw [show nI (6 * g) + 6 = nI (6 * (g + 1)) from nI_add (6 * g) 6]
    refine hm _ _ _ _ _ _ _ (by repeat (first | exact am_le_nil | apply am_le_cons | apply am_le_none)) (hn _ _ _ _ _ _ _ _ _ _ _ _ _ _ (lw_I_15 hI) _ _ (by omega) (by omega))
  · exact absurd (lw_dc rfl fy.2 _) q1351
set_option maxHeartbeats 4000000 in
theorem xw_1267 {P : am_P} (hm : am_mono P) {L : Nat} {xs : Nat → Int32} (hP : xm_HP (some (L, xs)) 15 27 xl_K P) {ha : Nat → Nat → Int32} {hz : Int32} {a1 : Nat → Nat → Int32} {s1 : Nat → Int32} {t1 : UInt32} {a2 : Nat → Nat → Int32} {s2 : Nat → Int32} {t2 : UInt32} {al : Int32} {ma : Nat → Nat → Int32} {ms : Nat → Int32} {mt : UInt32} {ol : Nat → Int64} {od : Nat → UInt64} {g : Nat} (hg : 6 * g + 6 ≤ L) (hL : L ≤ 3072) (hI : lw_I g ha hz a1 s1 t1 al ma ms mt) {bc bs : Nat} (hbc : 512 - g ≤ bc) (hbs : 6 * (512 - g) ≤ bs) (hn : ∀ (ha : Nat → Nat → Int32) (hz : Int32) (a1 : Nat → Nat → Int32) (s1 : Nat → Int32) (t1 : UInt32) (a2 : Nat → Nat → Int32) (s2 : Nat → Int32) (t2 : UInt32) (al : Int32) (ma : Nat → Nat → Int32) (ms : Nat → Int32) (mt : UInt32) (ol : Nat → Int64) (od : Nat → UInt64), lw_I (g + 1) ha hz a1 s1 t1 al ma ms mt → ∀ bc bs : Nat, 511 - g ≤ bc → 6 * (511 - g) ≤ bs → P 28 [some (.ref 1500), some (.ref 0), some (.ref 39), some (.ref 55), some (.ref 56), some (.int (nI (6 * (g + 1)))), none, none, none, none] [] (am_W ha hz a1 s1 t1 a2 s2 t2 al ma ms mt ol od) bc bs) : P 1267 [some (.ref 1500), some (.ref 0), some (.ref 39), some (.ref 55), some (.ref 56), some (.int (nI (6 * g))), none, none, none, none] [] (am_W ha hz a1 s1 t1 a2 s2 t2 al ma ms mt ol od) bc bs := by
  obtain ⟨T, M, D, S, hH, hh, hr, hWD, hS, hE, hD, hV, e8, e9, e10, et, eu, ev, ep, hB⟩ := lw_both hI
  obtain ⟨-, -, -, -, -, -, -, -, -, -, -, hal, hnar, -⟩ := id hI
  have hcn := lw_cnt12 (f := ha 0) (m := ma 0) (fun d hd => sh_45 (fun c hc => (hh.2.2.1 c hc).1) hH.2.2.2.1 hd)
  have hle := mr_cnt_le 12 (fun c => !decide (ma 0 c = 45))
  have hsa : mi_sum 12 (a1 1) = nI (1152 - mr_cnt 1152 S) := hV.2.2.2.2.2.2.2.2
  have hsm : mi_sum 12 (ma 4) = nI (1152 - mr_cnt 1152 S) := (mi_sum_cg 12 eu).symm.trans hsa
  have fm : ∀ c, 1 ≤ c → c ≤ 12 → vf_n64 (FP.ddiv (FP.i2d (nI (1152 - mr_cnt 1152 S))) (FP.i2d (nI c))) ∧ FP.dcmp (FP.ddiv (FP.i2d (nI (1152 - mr_cnt 1152 S))) (FP.i2d (nI c))) (FP.ddiv (FP.i2d (nI (1152 - mr_cnt 1152 S))) (FP.i2d (nI c))) = some .eq := fun c h1 h2 => fe_mean (by omega) h1 h2
  refine x_aload_n hP u27_1267 rfl ?_
  refine x_aload hP u27_1268 rfl ?_
  refine x_callS (bc' := bc - 1) (bs' := bs - 6) hP u27_1270 rfl rfl (by show bc = bc - 1 + 1; omega) (by show bs = bs - 6 + 6; omega) ?_
  refine xh26 (fun h => by rw [hsa, hcn]; exact (fm _ (by rw [hcn] at h; omega) hle).1) ?_ ?_
  · intro h0
    refine x_istore_6 hP u27_1273 (by exact rfl) ?_
    refine x_aload_n hP u27_1275 rfl ?_
    refine x_invokevirtual (bc' := bc - 1) (bs' := bs - 6) hP u27_1276 rfl rfl rfl rfl rfl ?_
    refine sp152 (fun h => absurd (hcn.symm.trans h0) (Nat.ne_of_gt h)) (fun _ => ?_) (fun h => absurd (hcn.symm.trans h0) (Nat.ne_of_gt h))
    refine x_dstore_7 hP u27_1279 (by exact rfl) ?_
    refine x_aload_n hP u27_1281 rfl ?_
    refine x_invokevirtual (bc' := bc - 1) (bs' := bs - 6) hP u27_1282 rfl rfl rfl rfl rfl ?_
    refine sp96 ?_
    refine x_iload hP u27_1285 rfl ?_
    refine x_icmp_eq hP u27_1287 (fun q1287 => ?_) (fun q1287 => ?_)
    · refine x_iload hP u27_1292 rfl ?_
      refine x_if_ne hP u27_1294 (fun q1294 => ?_) (fun q1294 => ?_)
      · refine x_goto hP u27_1329 ?_
        refine x_iinc_5 (v := 6) hP u27_1388 (by decide) (by exact rfl) ?_
        refine x_goto hP u27_1391 ?_
        rw [show nI (6 * g) + 6 = nI (6 * (g + 1)) from nI_add (6 * g) 6]
        refine hm _ _ _ _ _ _ _ (by repeat (first | exact am_le_nil | apply am_le_cons | apply am_le_none)) (hn _ _ _ _ _ _ _ _ _ _ _ _ _ _ (lw_I_15 hI) _ _ (by omega) (by omega))
      · exact absurd q1294 (by decide)
    · exact absurd rfl q1287
  · intro h1
    refine x_istore_6 hP u27_1273 (by exact rfl) ?_
    refine x_aload_n hP u27_1275 rfl ?_
    refine x_invokevirtual (bc' := bc - 1) (bs' := bs - 6) hP u27_1276 rfl rfl rfl rfl rfl ?_
    refine sp152 (fun h => by rw [hsm]; exact (fm _ h hle).1) (fun h => absurd (hcn.trans h) h1) (fun h9 => ?_)
    refine x_dstore_7 hP u27_1279 (by exact rfl) ?_
    refine x_aload_n hP u27_1281 rfl ?_
    refine x_invokevirtual (bc' := bc - 1) (bs' := bs - 6) hP u27_1282 rfl rfl rfl rfl rfl ?_
    refine sp96 ?_
    refine x_iload hP u27_1285 rfl ?_
    refine x_icmp_eq hP u27_1287 (fun q1287 => ?_) (fun q1287 => ?_)
    · refine x_iload hP u27_1292 rfl ?_
      refine x_if_ne hP u27_1294 (fun q1294 => ?_) (fun q1294 => ?_)
      · exact absurd rfl q1294
      · refine x_aload hP u27_1297 rfl ?_
        refine x_iconst (v := 0) hP u27_1299 (by decide) ?_
        refine x_daload hP u27_1300 rfl (vp_in_nI (n := 0) (by decide) (by decide)) ?_
        refine x_dload hP u27_1301 rfl ?_
        refine x_dcmp hP u27_1303 ?_
        refine x_if_eq hP u27_1304 (fun q1304 => ?_) (fun q1304 => ?_)
        · refine x_goto hP u27_1329 ?_
          refine x_iinc_5 (v := 6) hP u27_1388 (by decide) (by exact rfl) ?_
          refine x_goto hP u27_1391 ?_
          rw [show nI (6 * g) + 6 = nI (6 * (g + 1)) from nI_add (6 * g) 6]
          refine hm _ _ _ _ _ _ _ (by repeat (first | exact am_le_nil | apply am_le_cons | apply am_le_none)) (hn _ _ _ _ _ _ _ _ _ _ _ _ _ _ (lw_I_15 hI) _ _ (by omega) (by omega))
        · exact absurd (lw_dc (by
            show FP.ddiv (FP.i2d (mi_sum 12 (a1 1))) (FP.i2d (nI (mr_cnt 12 (fun j => mi_fil (ha 0) (0 + nI j))))) = _
            rw [hsa, hsm, hcn]) (by rw [hsm]; exact (fm _ h9 hle).2) _) q1304
    · exact absurd rfl q1287
