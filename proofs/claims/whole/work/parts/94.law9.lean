/-! THE LAW'S GROUPS: time. (rows by gen/sp46.py) -/
set_option maxHeartbeats 4000000 in
theorem xw_1211 {P : am_P} (hm : am_mono P) {L : Nat} {xs : Nat → Int32} (hP : xm_HP (some (L, xs)) 15 27 xl_K P) {ha : Nat → Nat → Int32} {hz : Int32} {a1 : Nat → Nat → Int32} {s1 : Nat → Int32} {t1 : UInt32} {a2 : Nat → Nat → Int32} {s2 : Nat → Int32} {t2 : UInt32} {al : Int32} {ma : Nat → Nat → Int32} {ms : Nat → Int32} {mt : UInt32} {ol : Nat → Int64} {od : Nat → UInt64} {g : Nat} (hg : 6 * g + 6 ≤ L) (hL : L ≤ 3072) (hI : lw_I g ha hz a1 s1 t1 al ma ms mt) {bc bs : Nat} (hbc : 512 - g ≤ bc) (hbs : 6 * (512 - g) ≤ bs) (hn : ∀ (ha : Nat → Nat → Int32) (hz : Int32) (a1 : Nat → Nat → Int32) (s1 : Nat → Int32) (t1 : UInt32) (a2 : Nat → Nat → Int32) (s2 : Nat → Int32) (t2 : UInt32) (al : Int32) (ma : Nat → Nat → Int32) (ms : Nat → Int32) (mt : UInt32) (ol : Nat → Int64) (od : Nat → UInt64), lw_I (g + 1) ha hz a1 s1 t1 al ma ms mt → ∀ bc bs : Nat, 511 - g ≤ bc → 6 * (511 - g) ≤ bs → P 28 [some (.ref 1500), some (.ref 0), some (.ref 39), some (.ref 55), some (.ref 56), some (.int (nI (6 * (g + 1)))), none, none, none, none] [] (am_W ha hz a1 s1 t1 a2 s2 t2 al ma ms mt ol od) bc bs) : P 1211 [some (.ref 1500), some (.ref 0), some (.ref 39), some (.ref 55), some (.ref 56), some (.int (nI (6 * g))), none, none, none, none] [] (am_W ha hz a1 s1 t1 a2 s2 t2 al ma ms mt ol od) bc bs := by
  obtain ⟨T, M, D, S, hH, hh, hr, hWD, hS, hE, hD, hV, e8, e9, e10, et, eu, ev, ep, hB⟩ := lw_both hI
  obtain ⟨-, -, -, -, -, -, -, -, -, -, -, hal, hnar, -⟩ := id hI
  have ft := fd_time (t := t1) hV.2.2.2.2.2.2.1
  refine x_aload_n hP u27_1211 rfl ?_
  refine x_invokevirtual (bc' := bc) (bs' := bs) hP u27_1212 rfl rfl rfl rfl rfl ?_
  refine sp79 ?_
  refine x_f2d hP u27_1215 ft.1 ?_
  refine x_dstore_6 hP u27_1216 (by exact rfl) ?_
  refine x_aload_n hP u27_1218 rfl ?_
  refine x_invokevirtual (bc' := bc) (bs' := bs) hP u27_1219 rfl rfl rfl rfl rfl ?_
  refine sp150 ?_
  refine x_f2d hP u27_1222 (by rw [← et]; exact ft.1) ?_
  refine x_dstore_8 hP u27_1223 (by exact rfl) ?_
  refine x_dload hP u27_1225 rfl ?_
  refine x_dload hP u27_1227 rfl ?_
  refine x_dcmp hP u27_1229 ?_
  refine x_if_eq hP u27_1230 (fun q1230 => ?_) (fun q1230 => ?_)
  · refine x_goto hP u27_1251 ?_
    refine x_iinc_5 (v := 6) hP u27_1388 (by decide) (by exact rfl) ?_
    refine x_goto hP u27_1391 ?_
    rw [show nI (6 * g) + 6 = nI (6 * (g + 1)) from nI_add (6 * g) 6]
    refine hm _ _ _ _ _ _ _ (by repeat (first | exact am_le_nil | apply am_le_cons | apply am_le_none)) (hn _ _ _ _ _ _ _ _ _ _ _ _ _ _ (lw_I_15 hI) _ _ (by omega) (by omega))
  · exact absurd (by rw [← et, ft.2]; rfl) q1230
