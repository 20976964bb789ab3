/-! THE TIME'S BITS, WALKED. (rows by gen/sp36.py) -/
theorem fu_n32 {y : UInt32} (h : y.toNat ≤ 200 * 2 ^ 23) : vf_n32 y := by
  refine UInt32.le_trans UInt32.and_le_left ?_
  rw [UInt32.le_iff_toNat_le]
  show y.toNat ≤ 2139095040
  omega
theorem fu_of {n : Nat} (h : n < 2 ^ 32) : (UInt32.ofNat n).toNat = n := by
  rw [UInt32.toNat_ofNat', Nat.mod_eq_of_lt h]
theorem fu_div {y : UInt32} {E T : Nat} (hy : y.toNat = E * 2 ^ 23 + T) (hT : T < 2 ^ 23) (h1 : 2 ≤ E) (h2 : E < 200) : (FP.fdiv y FP.fconst2).toNat = (E - 1) * 2 ^ 23 + T := by
  show (UInt32.ofNat (FP.Core.div FP.Core.b32 y.toNat 1073741824)).toNat = _
  rw [fb_div hy hT h1 h2, fu_of (by omega)]
theorem fu_mul {y : UInt32} {E T : Nat} (hy : y.toNat = E * 2 ^ 23 + T) (hT : T < 2 ^ 23) (h1 : 1 ≤ E) (h2 : E < 200) : (FP.fmul y FP.fconst2).toNat = (E + 1) * 2 ^ 23 + T := by
  show (UInt32.ofNat (FP.Core.mul FP.Core.b32 y.toNat 1073741824)).toNat = _
  rw [fb_mul hy hT h1 h2, fu_of (by omega)]
theorem fu_lt2 {y : UInt32} {E T : Nat} (hy : y.toNat = E * 2 ^ 23 + T) (hT : T < 2 ^ 23) (h1 : 1 ≤ E) (h2 : E < 200) (op : CmpOp) : Op.cmpValue (FP.fcmp y FP.fconst2) op < 0 ↔ E < 128 := by
  obtain ⟨g1, g2⟩ := fb_ord (m := 1073741824) (F := 128) hy hT h1 h2 (by decide) (by decide) (by decide)
  by_cases h : E < 128
  · rw [show FP.fcmp y FP.fconst2 = some .lt from g1 h]
    exact ⟨fun _ => h, fun _ => by cases op <;> decide⟩
  · rcases g2 (by omega) with g | g
    · rw [show FP.fcmp y FP.fconst2 = some .gt from g]
      exact ⟨fun q => absurd q (by cases op <;> decide), fun q => absurd q h⟩
    · rw [show FP.fcmp y FP.fconst2 = some .eq from g]
      exact ⟨fun q => absurd q (by cases op <;> decide), fun q => absurd q h⟩
theorem fu_lt1 {y : UInt32} {E T : Nat} (hy : y.toNat = E * 2 ^ 23 + T) (hT : T < 2 ^ 23) (h1 : 1 ≤ E) (h2 : E < 200) (op : CmpOp) : 0 ≤ Op.cmpValue (FP.fcmp y FP.fconst1) op ↔ 127 ≤ E := by
  obtain ⟨g1, g2⟩ := fb_ord (m := 1065353216) (F := 127) hy hT h1 h2 (by decide) (by decide) (by decide)
  by_cases h : E < 127
  · rw [show FP.fcmp y FP.fconst1 = some .lt from g1 h]
    exact ⟨fun q => absurd q (by cases op <;> decide), fun q => by omega⟩
  · rcases g2 (by omega) with g | g
    · rw [show FP.fcmp y FP.fconst1 = some .gt from g]
      exact ⟨fun _ => by omega, fun _ => by cases op <;> decide⟩
    · rw [show FP.fcmp y FP.fconst1 = some .eq from g]
      exact ⟨fun _ => by omega, fun _ => by cases op <;> decide⟩
theorem fu_pos {y : UInt32} {E T : Nat} (hy : y.toNat = E * 2 ^ 23 + T) (hT : T < 2 ^ 23) (h1 : 1 ≤ E) (h2 : E < 200) (op : CmpOp) : 0 < Op.cmpValue (FP.fcmp y FP.fconst0) op := by
  have dn := ff_dec hy hT h1 (by omega)
  have g : FP.fcmp y FP.fconst0 = some .gt := by
    show FP.Core.order (FP.Core.decode FP.Core.b32 y.toNat) (FP.Core.decode FP.Core.b32 0) = some .gt
    rw [dn, ff_dec0, FP.Core.order, FP.Core.inUnits, FP.Core.inUnits, Nat.zero_mul]
    have hp : 0 < (2 ^ 23 + T) * 2 ^ ((E : Int) - 150 - min ((E : Int) - 150) (-149)).toNat := Nat.mul_pos (by omega) (Nat.two_pow_pos _)
    generalize (2 ^ 23 + T) * 2 ^ ((E : Int) - 150 - min ((E : Int) - 150) (-149)).toNat = w at hp ⊢
    exact congrArg some (Int.compare_eq_gt.mpr (show ((0 : Nat) : Int) < ((w : Nat) : Int) by omega))
  rw [g]
  cases op <;> decide
theorem fu_bits {t : UInt32} {n : Nat} (h : t.toNat = n) : t.toInt32 = nI n := by
  subst h
  apply Int32.toBitVec_inj.mp
  show t.toBitVec = BitVec.ofNat 32 t.toBitVec.toNat
  rw [BitVec.ofNat_toNat, BitVec.setWidth_eq]
theorem fu_tail {y : UInt32} {T : Nat} (hy : y.toNat = 127 * 2 ^ 23 + T) (hT : T < 2 ^ 23) : vf_n32 (FP.fsub y FP.fconst1) ∧ vf_n32 (FP.fmul (FP.fsub y FP.fconst1) 1258291200) ∧ FP.f2i (FP.fmul (FP.fsub y FP.fconst1) 1258291200) = nI T := by
  by_cases h0 : T = 0
  · subst h0
    have : y = 1065353216 := UInt32.toNat_inj.mp hy
    subst this
    rw [show FP.fsub 1065353216 FP.fconst1 = 0 by decide +kernel, show FP.fmul 0 1258291200 = 0 by decide +kernel, show FP.f2i 0 = nI 0 by decide +kernel]
    exact ⟨fu_n32 (Nat.zero_le _), fu_n32 (Nat.zero_le _), rfl⟩
  · obtain ⟨w, E, m, e1, e2, e3, e4, e5, e6, e7, e8⟩ := fb_tail hy hT (by omega)
    have f1 : FP.fsub y FP.fconst1 = UInt32.ofNat w := congrArg UInt32.ofNat e1
    have hw : (UInt32.ofNat w).toNat = w := fu_of (by omega)
    have f2 : FP.fmul (UInt32.ofNat w) 1258291200 = UInt32.ofNat (E * 2 ^ 23 + (m - 2 ^ 23)) := by
      show UInt32.ofNat (FP.Core.mul FP.Core.b32 (UInt32.ofNat w).toNat 1258291200) = _
      rw [hw, e3]
    have hz : (UInt32.ofNat (E * 2 ^ 23 + (m - 2 ^ 23))).toNat = E * 2 ^ 23 + (m - 2 ^ 23) := fu_of (by omega)
    rw [f1, f2]
    refine ⟨fu_n32 (by rw [hw]; omega), fu_n32 (by rw [hz]; omega), ?_⟩
    show FP.Core.toI (FP.Core.decode FP.Core.b32 (UInt32.ofNat (E * 2 ^ 23 + (m - 2 ^ 23))).toNat) = _
    rw [hz, fb_f2i rfl e4 e5 e6 e7, e8]
set_option maxHeartbeats 4000000 in
theorem sp94 {d : Nat} {K : am_K} {h : am_H} {t : UInt32} (ht9 : ff_ok 156 t.toNat) (k : K (some (.int t.toInt32)) h) : am_Run (d + 1) 94 [.float t] h K := by
  refine ⟨rfl, fun P hm hP => ?_⟩
  show P 0 [some (.float t), none, none, none] [] _ 0 0
  rcases ht9 with h0 | ⟨E, T, ht, hT, h1, h2, -⟩
  · have : t = 0 := UInt32.toNat_inj.mp h0
    subst this
    refine s_fload_n hP t94_0 rfl ?_
    refine s_fconst0 hP t94_1 ?_
    refine s_fcmp hP t94_2 ?_
    refine s_if_gt hP t94_3 (fun q3 => ?_) (fun q3 => ?_)
    · exact absurd q3 (by decide +kernel)
    · refine s_iconst (v := 0) hP t94_6 (by decide) ?_
      refine s_ireturn hP t94_7 rfl rfl ?_
      exact k
  · have at67 : ∀ (y : UInt32) (i : Nat), y.toNat = 127 * 2 ^ 23 + T → P 67 [some (.float t), some (.float y), some (.int (nI (E))), some (.int (nI i))] [] h 0 0 := by
      intro y i hy
      obtain ⟨e1, e2, e3⟩ := fu_tail hy hT
      refine s_iload_n hP t94_67 rfl ?_
      refine s_bipush (v := 23) hP t94_68 (by decide) ?_
      refine s_ishl hP t94_70 ?_
      rw [pk_shlN (23 &&& 31) 23 (by decide) (by omega)]
      refine s_fload_n hP t94_71 rfl ?_
      refine s_fconst1 hP t94_72 ?_
      refine s_fsub hP t94_73 e1 ?_
      refine s_ldcf (v := 1258291200) hP t94_74 rfl ?_
      refine s_fmul hP t94_76 e2 ?_
      refine s_f2i hP t94_77 ?_
      rw [e3]
      refine s_iadd hP t94_78 ?_
      rw [nI_add, ← fu_bits ht]
      refine s_ireturn hP t94_79 rfl rfl ?_
      exact k
    have loop42 : ∀ (n i F : Nat) (y : UInt32), F ≤ 127 → 127 ≤ F + n → i + 120 ≤ F → y.toNat = F * 2 ^ 23 + T → P 42 [some (.float t), some (.float y), some (.int (nI (E + 127 - F))), some (.int (nI i))] [] h 0 0 := by
      intro n
      induction n with
      | zero =>
        intro i F y h3 h4 h5 hy
        refine s_iload_n hP t94_42 rfl ?_
        refine s_bipush (v := 126) hP t94_43 (by decide) ?_
        refine s_icmp_ge hP t94_45 (fun q45 => ?_) (fun q45 => ?_)
        · exact absurd ((nI_leI (a := 126) (by omega) (by omega)).mp q45) (by omega)
        · refine s_fload_n hP t94_48 rfl ?_
          refine s_fconst1 hP t94_49 ?_
          refine s_fcmp hP t94_50 ?_
          refine s_if_ge hP t94_51 (fun q51 => ?_) (fun q51 => ?_)
          · have hF := (fu_lt1 hy hT (by omega) (by omega) _).mp q51
            obtain rfl : F = 127 := by omega
            rw [show E + 127 - 127 = E by omega]
            exact at67 y i hy
          · have hF : F < 127 := Nat.lt_of_not_le (fun q => q51 ((fu_lt1 hy hT (by omega) (by omega) _).mpr q))
            have hm := fu_mul hy hT (by omega) (by omega)
            exact absurd ((fu_lt1 hy hT (by omega) (by omega) _).mpr (by omega)) q51
      | succ n ih =>
        intro i F y h3 h4 h5 hy
        refine s_iload_n hP t94_42 rfl ?_
        refine s_bipush (v := 126) hP t94_43 (by decide) ?_
        refine s_icmp_ge hP t94_45 (fun q45 => ?_) (fun q45 => ?_)
        · exact absurd ((nI_leI (a := 126) (by omega) (by omega)).mp q45) (by omega)
        · refine s_fload_n hP t94_48 rfl ?_
          refine s_fconst1 hP t94_49 ?_
          refine s_fcmp hP t94_50 ?_
          refine s_if_ge hP t94_51 (fun q51 => ?_) (fun q51 => ?_)
          · have hF := (fu_lt1 hy hT (by omega) (by omega) _).mp q51
            obtain rfl : F = 127 := by omega
            rw [show E + 127 - 127 = E by omega]
            exact at67 y i hy
          · have hF : F < 127 := Nat.lt_of_not_le (fun q => q51 ((fu_lt1 hy hT (by omega) (by omega) _).mpr q))
            have hm := fu_mul hy hT (by omega) (by omega)
            refine s_fload_n hP t94_54 rfl ?_
            refine s_fconst2 hP t94_55 ?_
            refine s_fmul hP t94_56 (fu_n32 (by rw [hm]; omega)) ?_
            refine s_fstore_n_1 hP t94_57 (by exact rfl) ?_
            refine s_iinc_2 (v := (-1)) hP t94_58 (by decide) (by exact rfl) ?_
            refine s_iinc_3 (v := 1) hP t94_61 (by decide) (by exact rfl) ?_
            refine s_goto hP t94_64 ?_
            rw [nI_1, show E + 127 - F = (E + 127 - (F + 1)) + 1 by omega, nI_m1]
            exact ih (i + 1) (F + 1) _ (by omega) (by omega) (by omega) hm
    have loop15 : ∀ (n j F : Nat) (y : UInt32), F ≤ 127 + n → j + F = E → 120 ≤ F → (j = 0 ∨ 127 ≤ F) → y.toNat = F * 2 ^ 23 + T → P 15 [some (.float t), some (.float y), some (.int (nI (127 + j))), some (.int (nI j))] [] h 0 0 := by
      intro n
      induction n with
      | zero =>
        intro j F y h3 h4 h5 h6 hy
        refine s_iload_n hP t94_15 rfl ?_
        refine s_bipush (v := 127) hP t94_16 (by decide) ?_
        refine s_icmp_ge hP t94_18 (fun q18 => ?_) (fun q18 => ?_)
        · exact absurd ((nI_leI (a := 127) (by omega) (by omega)).mp q18) (by omega)
        · refine s_fload_n hP t94_21 rfl ?_
          refine s_fconst2 hP t94_22 ?_
          refine s_fcmp hP t94_23 ?_
          refine s_if_lt hP t94_24 (fun q24 => ?_) (fun q24 => ?_)
          · have hF := (fu_lt2 hy hT (by omega) (by omega) _).mp q24
            refine s_iconst (v := 0) hP t94_40 (by decide) ?_
            refine s_istore_n_3 hP t94_41 (by exact rfl) ?_
            rw [show 127 + j = E + 127 - F by omega]
            exact loop42 7 0 F y (by omega) (by omega) (by omega) hy
          · have hF : 128 ≤ F := Nat.le_of_not_lt (fun q => q24 ((fu_lt2 hy hT (by omega) (by omega) _).mpr q))
            have hm := fu_div hy hT (by omega) (by omega)
            exact absurd ((fu_lt2 hy hT (by omega) (by omega) _).mpr (by omega)) q24
      | succ n ih =>
        intro j F y h3 h4 h5 h6 hy
        refine s_iload_n hP t94_15 rfl ?_
        refine s_bipush (v := 127) hP t94_16 (by decide) ?_
        refine s_icmp_ge hP t94_18 (fun q18 => ?_) (fun q18 => ?_)
        · exact absurd ((nI_leI (a := 127) (by omega) (by omega)).mp q18) (by omega)
        · refine s_fload_n hP t94_21 rfl ?_
          refine s_fconst2 hP t94_22 ?_
          refine s_fcmp hP t94_23 ?_
          refine s_if_lt hP t94_24 (fun q24 => ?_) (fun q24 => ?_)
          · have hF := (fu_lt2 hy hT (by omega) (by omega) _).mp q24
            refine s_iconst (v := 0) hP t94_40 (by decide) ?_
            refine s_istore_n_3 hP t94_41 (by exact rfl) ?_
            rw [show 127 + j = E + 127 - F by omega]
            exact loop42 7 0 F y (by omega) (by omega) (by omega) hy
          · have hF : 128 ≤ F := Nat.le_of_not_lt (fun q => q24 ((fu_lt2 hy hT (by omega) (by omega) _).mpr q))
            have hm := fu_div hy hT (by omega) (by omega)
            refine s_fload_n hP t94_27 rfl ?_
            refine s_fconst2 hP t94_28 ?_
            refine s_fdiv hP t94_29 (fu_n32 (by rw [hm]; omega)) ?_
            refine s_fstore_n_1 hP t94_30 (by exact rfl) ?_
            refine s_iinc_2 (v := 1) hP t94_31 (by decide) (by exact rfl) ?_
            refine s_iinc_3 (v := 1) hP t94_34 (by decide) (by exact rfl) ?_
            refine s_goto hP t94_37 ?_
            rw [nI_1, nI_1]
            exact ih (j + 1) (F - 1) _ (by omega) (by omega) (by omega) (by omega) hm
    refine s_fload_n hP t94_0 rfl ?_
    refine s_fconst0 hP t94_1 ?_
    refine s_fcmp hP t94_2 ?_
    refine s_if_gt hP t94_3 (fun q3 => ?_) (fun q3 => ?_)
    · refine s_fload_n hP t94_8 rfl ?_
      refine s_fstore_n_1 hP t94_9 (by exact rfl) ?_
      refine s_bipush (v := 127) hP t94_10 (by decide) ?_
      refine s_istore_n_2 hP t94_12 (by exact rfl) ?_
      refine s_iconst (v := 0) hP t94_13 (by decide) ?_
      refine s_istore_n_3 hP t94_14 (by exact rfl) ?_
      exact loop15 30 0 E t (by omega) (by omega) (by omega) (Or.inl rfl) ht
    · exact absurd (fu_pos ht hT (by omega) (by omega) _) q3
set_option maxHeartbeats 1000000 in
theorem sp80 {d : Nat} {K : am_K} {ha : Nat → Nat → Int32} {hz : Int32} {a1 : Nat → Nat → Int32} {s1 : Nat → Int32} {t1 : UInt32} {a2 : Nat → Nat → Int32} {s2 : Nat → Int32} {t2 : UInt32} {al : Int32} {ma : Nat → Nat → Int32} {ms : Nat → Int32} {mt : UInt32} {ol : Nat → Int64} {od : Nat → UInt64} (ht9 : ff_ok 156 t1.toNat) (k : K (some (.int t1.toInt32)) (am_W ha hz a1 s1 t1 a2 s2 t2 al ma ms mt ol od)) : am_Run (d + 2) 80 [.ref 0] (am_W ha hz a1 s1 t1 a2 s2 t2 al ma ms mt ol od) K := by
  refine ⟨rfl, fun P hm hP => ?_⟩
  show P 0 [some (.ref 0)] [] _ 0 0
  refine s_aload_n hP t80_0 rfl ?_
  refine s_getfield hP t80_1 rfl rfl ?_
  refine s_getfield hP t80_4 rfl rfl ?_
  refine s_invokestatic (bc' := 0) (bs' := 0) hP t80_7 rfl rfl rfl rfl rfl ?_
  refine sp94 ht9 ?_
  refine s_ireturn hP t80_10 rfl rfl ?_
  exact k
