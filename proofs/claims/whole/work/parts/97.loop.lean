/-! THE LAW'S LOOP. (rows by gen/sp48.py) -/
theorem lw_31 (x : Int32) : ∃ k, k < 32 ∧ x &&& 31 = nI k := by
  refine ⟨(x &&& 31).toBitVec.toNat, ?_, ?_⟩
  · have e : (x &&& 31).toBitVec = x.toBitVec &&& 31#32 := rfl
    rw [e, BitVec.toNat_and]
    exact Nat.lt_of_le_of_lt Nat.and_le_right (by decide)
  · refine Int32.toBitVec_inj.mp ?_
    show (x &&& 31).toBitVec = BitVec.ofNat 32 ((x &&& 31).toBitVec.toNat)
    rw [BitVec.ofNat_toNat, BitVec.setWidth_eq]
theorem lw_more {g L : Nat} (h1 : 6 * g ≤ L) (hL : L ≤ 3072) (q : ¬ nI L - 6 < nI (6 * g)) : 6 * g + 6 ≤ L := by
  by_cases h6 : 6 ≤ L
  · have e1 : nI (L - 6) + 6 = nI L := (show nI (L - 6) + 6 = nI (L - 6 + 6) from nI_add (L - 6) 6).trans (by rw [Nat.sub_add_cancel h6])
    rw [← e1, Int32.add_sub_cancel, nI_ltI (by omega) (by omega)] at q
    omega
  · refine absurd (Int32.lt_of_lt_of_le ?_ (nI_pos' (n := 6 * g) (by omega))) q
    have : L = 0 ∨ L = 1 ∨ L = 2 ∨ L = 3 ∨ L = 4 ∨ L = 5 := by omega
    rcases this with rfl | rfl | rfl | rfl | rfl | rfl <;> decide
set_option maxHeartbeats 8000000 in
theorem lw_run {P : am_P} (hm : am_mono P) {L : Nat} {xs : Nat → Int32} (hP : xm_HP (some (L, xs)) 15 27 xl_K P) (hL : L ≤ 3072) : ∀ n g : Nat, 513 ≤ g + n → 6 * g ≤ L → ∀ (ha : Nat → Nat → Int32) (hz : Int32) (a1 : Nat → Nat → Int32) (s1 : Nat → Int32) (t1 : UInt32) (a2 : Nat → Nat → Int32) (s2 : Nat → Int32) (t2 : UInt32) (al : Int32) (ma : Nat → Nat → Int32) (ms : Nat → Int32) (mt : UInt32) (ol : Nat → Int64) (od : Nat → UInt64), lw_I g ha hz a1 s1 t1 al ma ms mt → ∀ bc bs : Nat, 512 - g ≤ bc → 6 * (512 - g) ≤ bs → P 28 [some (.ref 1500), some (.ref 0), some (.ref 39), some (.ref 55), some (.ref 56), some (.int (nI (6 * g))), none, none, none, none] [] (am_W ha hz a1 s1 t1 a2 s2 t2 al ma ms mt ol od) bc bs := by
  intro n
  induction n with
  | zero => intro g hn hgL; omega
  | succ n ih =>
    intro g hn hgL ha hz a1 s1 t1 a2 s2 t2 al ma ms mt ol od hI bc bs hbc hbs
    refine x_iload hP u27_28 rfl ?_
    refine x_aload_n hP u27_30 rfl ?_
    refine x_slen hP u27_31 ?_
    refine x_bipush (v := 6) hP u27_32 (by decide) ?_
    refine x_isub hP u27_34 ?_
    refine x_icmp_gt hP u27_35 (fun q35 => ?_) (fun q35 => ?_)
    · refine x_iconst (v := 1) hP u27_1394 (by decide) ?_
      refine x_ireturn hP u27_1395 rfl rfl ?_
      exact rfl
    · have hg := lw_more hgL hL q35
      have hnx : ∀ (ha : Nat → Nat → Int32) (hz : Int32) (a1 : Nat → Nat → Int32) (s1 : Nat → Int32) (t1 : UInt32) (a2 : Nat → Nat → Int32) (s2 : Nat → Int32) (t2 : UInt32) (al : Int32) (ma : Nat → Nat → Int32) (ms : Nat → Int32) (mt : UInt32) (ol : Nat → Int64) (od : Nat → UInt64), lw_I (g + 1) ha hz a1 s1 t1 al ma ms mt → ∀ bc bs : Nat, 511 - g ≤ bc → 6 * (511 - g) ≤ bs → P 28 [some (.ref 1500), some (.ref 0), some (.ref 39), some (.ref 55), some (.ref 56), some (.int (nI (6 * (g + 1)))), none, none, none, none] [] (am_W ha hz a1 s1 t1 a2 s2 t2 al ma ms mt ol od) bc bs := fun ha hz a1 s1 t1 a2 s2 t2 al ma ms mt ol od hI bc bs h1 h2 => ih (g + 1) (by omega) (by omega) ha hz a1 s1 t1 a2 s2 t2 al ma ms mt ol od hI bc bs (by omega) (by omega)
      refine x_aload_n hP u27_38 rfl ?_
      refine x_iload hP u27_39 rfl ?_
      refine x_sld hP u27_41 (vp_in_nI (by omega) (by omega)) ?_
      refine x_bipush (v := 31) hP u27_42 (by decide) ?_
      refine x_iand hP u27_44 ?_
      obtain ⟨k, hk, ek⟩ := lw_31 (xs (nI (6 * g)).toNatClampNeg)
      rw [ek]
      have hk9 : k = 0 ∨ k = 1 ∨ k = 2 ∨ k = 3 ∨ k = 4 ∨ k = 5 ∨ k = 6 ∨ k = 7 ∨ k = 8 ∨ k = 9 ∨ k = 10 ∨ k = 11 ∨ k = 12 ∨ k = 13 ∨ k = 14 ∨ k = 15 ∨ k = 16 ∨ k = 17 ∨ k = 18 ∨ k = 19 ∨ k = 20 ∨ k = 21 ∨ k = 22 ∨ k = 23 ∨ k = 24 ∨ k = 25 ∨ 26 ≤ k := by omega
      clear ek
      rcases hk9 with rfl | rfl | rfl | rfl | rfl | rfl | rfl | rfl | rfl | rfl | rfl | rfl | rfl | rfl | rfl | rfl | rfl | rfl | rfl | rfl | rfl | rfl | rfl | rfl | rfl | rfl | hk9
      · exact x_swin (off := 119) (tgt := 164) hP u27_45 (by decide +kernel) (by decide +kernel) (by decide +kernel) (by decide +kernel) (xw_164 hm hP hg hL hI hbc hbs hnx)
      · exact x_swin (off := 225) (tgt := 270) hP u27_45 (by decide +kernel) (by decide +kernel) (by decide +kernel) (by decide +kernel) (xw_270 hm hP hg hL hI hbc hbs hnx)
      · exact x_swin (off := 340) (tgt := 385) hP u27_45 (by decide +kernel) (by decide +kernel) (by decide +kernel) (by decide +kernel) (xw_385 hm hP hg hL hI hbc hbs hnx)
      · exact x_swin (off := 432) (tgt := 477) hP u27_45 (by decide +kernel) (by decide +kernel) (by decide +kernel) (by decide +kernel) (xw_477 hm hP hg hL hI hbc hbs hnx)
      · exact x_swin (off := 526) (tgt := 571) hP u27_45 (by decide +kernel) (by decide +kernel) (by decide +kernel) (by decide +kernel) (xw_571 hm hP hg hL hI hbc hbs hnx)
      · exact x_swin (off := 570) (tgt := 615) hP u27_45 (by decide +kernel) (by decide +kernel) (by decide +kernel) (by decide +kernel) (xw_615 hm hP hg hL hI hbc hbs hnx)
      · exact x_swin (off := 583) (tgt := 628) hP u27_45 (by decide +kernel) (by decide +kernel) (by decide +kernel) (by decide +kernel) (xw_628 hm hP hg hL hI hbc hbs hnx)
      · exact x_swin (off := 639) (tgt := 684) hP u27_45 (by decide +kernel) (by decide +kernel) (by decide +kernel) (by decide +kernel) (xw_684 hm hP hg hL hI hbc hbs hnx)
      · exact x_swin (off := 652) (tgt := 697) hP u27_45 (by decide +kernel) (by decide +kernel) (by decide +kernel) (by decide +kernel) (xw_697 hm hP hg hL hI hbc hbs hnx)
      · exact x_swin (off := 665) (tgt := 710) hP u27_45 (by decide +kernel) (by decide +kernel) (by decide +kernel) (by decide +kernel) (xw_710 hm hP hg hL hI hbc hbs hnx)
      · exact x_swin (off := 678) (tgt := 723) hP u27_45 (by decide +kernel) (by decide +kernel) (by decide +kernel) (by decide +kernel) (xw_723 hm hP hg hL hI hbc hbs hnx)
      · exact x_swin (off := 691) (tgt := 736) hP u27_45 (by decide +kernel) (by decide +kernel) (by decide +kernel) (by decide +kernel) (xw_736 hm hP hg hL hI hbc hbs hnx)
      · exact x_swin (off := 704) (tgt := 749) hP u27_45 (by decide +kernel) (by decide +kernel) (by decide +kernel) (by decide +kernel) (xw_749 hm hP hg hL hI hbc hbs hnx)
      · exact x_swin (off := 760) (tgt := 805) hP u27_45 (by decide +kernel) (by decide +kernel) (by decide +kernel) (by decide +kernel) (xw_805 hm hP hg hL hI hbc hbs hnx)
      · exact x_swin (off := 816) (tgt := 861) hP u27_45 (by decide +kernel) (by decide +kernel) (by decide +kernel) (by decide +kernel) (xw_861 hm hP hg hL hI hbc hbs hnx)
      · exact x_swin (off := 829) (tgt := 874) hP u27_45 (by decide +kernel) (by decide +kernel) (by decide +kernel) (by decide +kernel) (xw_874 hm hP hg hL hI hbc hbs hnx)
      · exact x_swin (off := 897) (tgt := 942) hP u27_45 (by decide +kernel) (by decide +kernel) (by decide +kernel) (by decide +kernel) (xw_942 hm hP hg hL hI hbc hbs hnx)
      · exact x_swin (off := 984) (tgt := 1029) hP u27_45 (by decide +kernel) (by decide +kernel) (by decide +kernel) (by decide +kernel) (xw_1029 hm hP hg hL hI hbc hbs hnx)
      · exact x_swin (off := 1071) (tgt := 1116) hP u27_45 (by decide +kernel) (by decide +kernel) (by decide +kernel) (by decide +kernel) (xw_1116 hm hP hg hL hI hbc hbs hnx)
      · exact x_swin (off := 1084) (tgt := 1129) hP u27_45 (by decide +kernel) (by decide +kernel) (by decide +kernel) (by decide +kernel) (xw_1129 hm hP hg hL hI hbc hbs hnx)
      · exact x_swin (off := 1152) (tgt := 1197) hP u27_45 (by decide +kernel) (by decide +kernel) (by decide +kernel) (by decide +kernel) (xw_1197 hm hP hg hL hI hbc hbs hnx)
      · exact x_swin (off := 1166) (tgt := 1211) hP u27_45 (by decide +kernel) (by decide +kernel) (by decide +kernel) (by decide +kernel) (xw_1211 hm hP hg hL hI hbc hbs hnx)
      · exact x_swin (off := 1209) (tgt := 1254) hP u27_45 (by decide +kernel) (by decide +kernel) (by decide +kernel) (by decide +kernel) (xw_1254 hm hP hg hL hI hbc hbs hnx)
      · exact x_swin (off := 1222) (tgt := 1267) hP u27_45 (by decide +kernel) (by decide +kernel) (by decide +kernel) (by decide +kernel) (xw_1267 hm hP hg hL hI hbc hbs hnx)
      · exact x_swin (off := 1287) (tgt := 1332) hP u27_45 (by decide +kernel) (by decide +kernel) (by decide +kernel) (by decide +kernel) (xw_1332 hm hP hg hL hI hbc hbs hnx)
      · exact x_swin (off := 1330) (tgt := 1375) hP u27_45 (by decide +kernel) (by decide +kernel) (by decide +kernel) (by decide +kernel) (xw_1375 hm hP hg hL hI hbc hbs hnx)
      · refine x_swout (tgt := 1388) hP u27_45 (Or.inr (by rw [nI_toInt (by omega)]; omega)) (by decide +kernel) ?_
        refine x_iinc_5 (v := 6) hP u27_1388 (by decide) (by exact rfl) ?_
        refine x_goto hP u27_1391 ?_
        rw [show nI (6 * g) + 6 = nI (6 * (g + 1)) from nI_add (6 * g) 6]
        exact hnx _ _ _ _ _ _ _ _ _ _ _ _ _ _ (lw_I_up hI) _ _ (by omega) (by omega)
