/-! Methods that read arrays, and loops over them. (rows by gen/sp3.py) -/
theorem am_getn {h : am_H} {a : Nat} {e : am_E} (hb : Nat.blt a 1000 = true) (he : am_nth h a = some e) : am_get am_ro h a = some e := by
  unfold am_get
  rw [hb]
  exact he
theorem mi_in {x : Int32} {N : Nat} (hN : N < 2 ^ 31) (h0 : ¬ x < 0) (h1 : ¬ Int32.ofNat N ≤ x) : vp_in x N := by
  rcases pk_ix x hN with h | h | ⟨j, hj, rfl⟩
  · exact absurd h h0
  · exact absurd h h1
  · exact vp_in_nI hj hN
theorem mi_leN {a b : Nat} (ha : a < 2 ^ 31) (hb : b < 2 ^ 31) (h : Int32.ofNat a ≤ Int32.ofNat b) : a ≤ b := (nI_leI ha hb).mp h
theorem mi_nleN {a b : Nat} (ha : a < 2 ^ 31) (hb : b < 2 ^ 31) (h : ¬ Int32.ofNat a ≤ Int32.ofNat b) : b < a := Nat.lt_of_not_le (fun q => h ((nI_leI ha hb).mpr q))
def mi_us (x k : Int32) : Int32 := (x.toUInt32 >>> (k.toUInt32 &&& Int32.toUInt32 31)).toInt32
def mi_bc1 (x : Int32) : Int32 := x - (mi_us x 1 &&& 1431655765)
def mi_bc2 (x : Int32) : Int32 := (x &&& 858993459) + (mi_us x 2 &&& 858993459)
def mi_bc3 (x : Int32) : Int32 := (x + mi_us x 4) &&& 252645135
def mi_bc4 (x : Int32) : Int32 := x + mi_us x 8
def mi_bc5 (x : Int32) : Int32 := (x + mi_us x 16) &&& 63
def mi_bc (x : Int32) : Int32 := mi_bc5 (mi_bc4 (mi_bc3 (mi_bc2 (mi_bc1 x))))
def mi_sum : Nat → (Nat → Int32) → Int32
  | 0, _ => 0
  | n + 1, f => mi_sum n f + f n
set_option maxHeartbeats 1000000 in
theorem sp157 {d : Nat} {K : am_K} {h : am_H} {x : Int32} (k : K (some (.int (mi_bc x))) h) : am_Run (d + 1) 157 [.int x] h K := by
  refine ⟨rfl, fun P hm hP => ?_⟩
  show P 0 [some (.int x)] [] _ 0 0
  refine s_iload_n hP t157_0 rfl ?_
  refine s_iload_n hP t157_1 rfl ?_
  refine s_iconst (v := 1) hP t157_2 (by decide) ?_
  refine s_iushr hP t157_3 ?_
  refine s_ldc_w (v := 1431655765) hP t157_4 (by decide) ?_
  refine s_iand hP t157_7 ?_
  refine s_isub hP t157_8 ?_
  refine s_istore_n_0 hP t157_9 ?_
  refine s_iload_n hP t157_10 rfl ?_
  refine s_ldc_w (v := 858993459) hP t157_11 (by decide) ?_
  refine s_iand hP t157_14 ?_
  refine s_iload_n hP t157_15 rfl ?_
  refine s_iconst (v := 2) hP t157_16 (by decide) ?_
  refine s_iushr hP t157_17 ?_
  refine s_ldc_w (v := 858993459) hP t157_18 (by decide) ?_
  refine s_iand hP t157_21 ?_
  refine s_iadd hP t157_22 ?_
  refine s_istore_n_0 hP t157_23 ?_
  refine s_iload_n hP t157_24 rfl ?_
  refine s_iload_n hP t157_25 rfl ?_
  refine s_iconst (v := 4) hP t157_26 (by decide) ?_
  refine s_iushr hP t157_27 ?_
  refine s_iadd hP t157_28 ?_
  refine s_ldc_w (v := 252645135) hP t157_29 (by decide) ?_
  refine s_iand hP t157_32 ?_
  refine s_istore_n_0 hP t157_33 ?_
  refine s_iload_n hP t157_34 rfl ?_
  refine s_iload_n hP t157_35 rfl ?_
  refine s_bipush (v := 8) hP t157_36 (by decide) ?_
  refine s_iushr hP t157_38 ?_
  refine s_iadd hP t157_39 ?_
  refine s_istore_n_0 hP t157_40 ?_
  refine s_iload_n hP t157_41 rfl ?_
  refine s_iload_n hP t157_42 rfl ?_
  refine s_bipush (v := 16) hP t157_43 (by decide) ?_
  refine s_iushr hP t157_45 ?_
  refine s_iadd hP t157_46 ?_
  refine s_istore_n_0 hP t157_47 ?_
  refine s_iload_n hP t157_48 rfl ?_
  refine s_bipush (v := 63) hP t157_49 (by decide) ?_
  refine s_iand hP t157_51 ?_
  refine s_ireturn hP t157_52 rfl rfl ?_
  exact k
def mi_rbf (x r : Int32) : Int32 := if x - r < 0 then 0 else x - r
def mi_rbl (x r : Int32) : Int32 := if 16 ≤ x + r then 15 else x + r
def mi_rb (x y line sq : Int32) : Int32 :=
  if sq - (line - y) * (line - y) < 0 then 0 else if 10 ≤ sq - (line - y) * (line - y) then 0
  else (1 <<< ((mi_rbl x (am_roots (sq - (line - y) * (line - y)).toNatClampNeg) + 1) &&& 31)) - (1 <<< (mi_rbf x (am_roots (sq - (line - y) * (line - y)).toNatClampNeg) &&& 31))
set_option maxHeartbeats 1000000 in
theorem sp68 {d : Nat} {K : am_K} {h : am_H} {a : Nat} {fs fr fx fy fz y s : Int32} (h1 : am_nth h a = some (.inr (6, [.int fs, .int fr, .int fx, .int fy, .int fz]))) (k : K (some (.int (mi_rb fx fy y s))) h) : am_Run (d + 1) 68 [.ref a, .int y, .int s] h K := by
  refine ⟨rfl, fun P hm hP => ?_⟩
  show P 0 [some (.ref a), some (.int y), some (.int s), none, none, none] [] _ 0 0
  refine s_iload_n hP t68_0 rfl ?_
  refine s_iload_n hP t68_1 rfl ?_
  refine s_aload_n hP t68_2 rfl ?_
  refine s_getfield hP t68_3 h1 rfl ?_
  refine s_isub hP t68_6 ?_
  refine s_iload_n hP t68_7 rfl ?_
  refine s_aload_n hP t68_8 rfl ?_
  refine s_getfield hP t68_9 h1 rfl ?_
  refine s_isub hP t68_12 ?_
  refine s_imul hP t68_13 ?_
  refine s_isub hP t68_14 ?_
  refine s_istore_n_3 hP t68_15 (by exact rfl) ?_
  refine s_iload_n hP t68_16 rfl ?_
  refine s_if_lt hP t68_17 (fun q17 => ?_) (fun q17 => ?_)
  · have e17 : s - (y - fy) * (y - fy) < 0 := q17
    refine s_iconst (v := 0) hP t68_28 (by decide) ?_
    refine s_ireturn hP t68_29 rfl rfl ?_
    simp only [mi_rb, mi_rbf, mi_rbl, if_pos e17] at k
    exact k
  · have e17 : ¬ s - (y - fy) * (y - fy) < 0 := q17
    refine s_iload_n hP t68_20 rfl ?_
    refine s_getstatic hP t68_21 ?_
    refine s_arraylength hP t68_24 rfl rfl ?_
    refine s_icmp_lt hP t68_25 (fun q25 => ?_) (fun q25 => ?_)
    · have e25 : ¬ (10 : Int32) ≤ s - (y - fy) * (y - fy) := Int32.not_le.mpr q25
      refine s_aload_n hP t68_30 rfl ?_
      refine s_getfield hP t68_31 h1 rfl ?_
      refine s_getstatic hP t68_34 ?_
      refine s_iload_n hP t68_37 rfl ?_
      refine s_iaload hP t68_38 rfl (mi_in (by decide) q17 e25) ?_
      refine s_isub hP t68_39 ?_
      refine s_if_ge hP t68_40 (fun q40 => ?_) (fun q40 => ?_)
      · have e40 : ¬ fx - am_roots (s - (y - fy) * (y - fy)).toNatClampNeg < 0 := Int32.not_lt.mpr q40
        refine s_aload_n hP t68_47 rfl ?_
        refine s_getfield hP t68_48 h1 rfl ?_
        refine s_getstatic hP t68_51 ?_
        refine s_iload_n hP t68_54 rfl ?_
        refine s_iaload hP t68_55 rfl (mi_in (by decide) q17 e25) ?_
        refine s_isub hP t68_56 ?_
        refine s_istore_4 hP t68_57 (by exact rfl) ?_
        refine s_aload_n hP t68_59 rfl ?_
        refine s_getfield hP t68_60 h1 rfl ?_
        refine s_getstatic hP t68_63 ?_
        refine s_iload_n hP t68_66 rfl ?_
        refine s_iaload hP t68_67 rfl (mi_in (by decide) q17 e25) ?_
        refine s_iadd hP t68_68 ?_
        refine s_bipush (v := 16) hP t68_69 (by decide) ?_
        refine s_icmp_lt hP t68_71 (fun q71 => ?_) (fun q71 => ?_)
        · have e71 : ¬ (16 : Int32) ≤ fx + am_roots (s - (y - fy) * (y - fy)).toNatClampNeg := Int32.not_le.mpr q71
          refine s_aload_n hP t68_79 rfl ?_
          refine s_getfield hP t68_80 h1 rfl ?_
          refine s_getstatic hP t68_83 ?_
          refine s_iload_n hP t68_86 rfl ?_
          refine s_iaload hP t68_87 rfl (mi_in (by decide) q17 e25) ?_
          refine s_iadd hP t68_88 ?_
          refine s_istore_5 hP t68_89 (by exact rfl) ?_
          refine s_iconst (v := 1) hP t68_91 (by decide) ?_
          refine s_iload hP t68_92 rfl ?_
          refine s_iconst (v := 1) hP t68_94 (by decide) ?_
          refine s_iadd hP t68_95 ?_
          refine s_ishl hP t68_96 ?_
          refine s_iconst (v := 1) hP t68_97 (by decide) ?_
          refine s_iload hP t68_98 rfl ?_
          refine s_ishl hP t68_100 ?_
          refine s_isub hP t68_101 ?_
          refine s_ireturn hP t68_102 rfl rfl ?_
          simp only [mi_rb, mi_rbf, mi_rbl, if_neg e17, if_neg e25, if_neg e40, if_neg e71] at k
          exact k
        · have e71 : (16 : Int32) ≤ fx + am_roots (s - (y - fy) * (y - fy)).toNatClampNeg := Int32.not_lt.mp q71
          refine s_bipush (v := 15) hP t68_74 (by decide) ?_
          refine s_goto hP t68_76 ?_
          refine s_istore_5 hP t68_89 (by exact rfl) ?_
          refine s_iconst (v := 1) hP t68_91 (by decide) ?_
          refine s_iload hP t68_92 rfl ?_
          refine s_iconst (v := 1) hP t68_94 (by decide) ?_
          refine s_iadd hP t68_95 ?_
          refine s_ishl hP t68_96 ?_
          refine s_iconst (v := 1) hP t68_97 (by decide) ?_
          refine s_iload hP t68_98 rfl ?_
          refine s_ishl hP t68_100 ?_
          refine s_isub hP t68_101 ?_
          refine s_ireturn hP t68_102 rfl rfl ?_
          simp only [mi_rb, mi_rbf, mi_rbl, if_neg e17, if_neg e25, if_neg e40, if_pos e71] at k
          exact k
      · have e40 : fx - am_roots (s - (y - fy) * (y - fy)).toNatClampNeg < 0 := Int32.not_le.mp q40
        refine s_iconst (v := 0) hP t68_43 (by decide) ?_
        refine s_goto hP t68_44 ?_
        refine s_istore_4 hP t68_57 (by exact rfl) ?_
        refine s_aload_n hP t68_59 rfl ?_
        refine s_getfield hP t68_60 h1 rfl ?_
        refine s_getstatic hP t68_63 ?_
        refine s_iload_n hP t68_66 rfl ?_
        refine s_iaload hP t68_67 rfl (mi_in (by decide) q17 e25) ?_
        refine s_iadd hP t68_68 ?_
        refine s_bipush (v := 16) hP t68_69 (by decide) ?_
        refine s_icmp_lt hP t68_71 (fun q71 => ?_) (fun q71 => ?_)
        · have e71 : ¬ (16 : Int32) ≤ fx + am_roots (s - (y - fy) * (y - fy)).toNatClampNeg := Int32.not_le.mpr q71
          refine s_aload_n hP t68_79 rfl ?_
          refine s_getfield hP t68_80 h1 rfl ?_
          refine s_getstatic hP t68_83 ?_
          refine s_iload_n hP t68_86 rfl ?_
          refine s_iaload hP t68_87 rfl (mi_in (by decide) q17 e25) ?_
          refine s_iadd hP t68_88 ?_
          refine s_istore_5 hP t68_89 (by exact rfl) ?_
          refine s_iconst (v := 1) hP t68_91 (by decide) ?_
          refine s_iload hP t68_92 rfl ?_
          refine s_iconst (v := 1) hP t68_94 (by decide) ?_
          refine s_iadd hP t68_95 ?_
          refine s_ishl hP t68_96 ?_
          refine s_iconst (v := 1) hP t68_97 (by decide) ?_
          refine s_iload hP t68_98 rfl ?_
          refine s_ishl hP t68_100 ?_
          refine s_isub hP t68_101 ?_
          refine s_ireturn hP t68_102 rfl rfl ?_
          simp only [mi_rb, mi_rbf, mi_rbl, if_neg e17, if_neg e25, if_pos e40, if_neg e71] at k
          exact k
        · have e71 : (16 : Int32) ≤ fx + am_roots (s - (y - fy) * (y - fy)).toNatClampNeg := Int32.not_lt.mp q71
          refine s_bipush (v := 15) hP t68_74 (by decide) ?_
          refine s_goto hP t68_76 ?_
          refine s_istore_5 hP t68_89 (by exact rfl) ?_
          refine s_iconst (v := 1) hP t68_91 (by decide) ?_
          refine s_iload hP t68_92 rfl ?_
          refine s_iconst (v := 1) hP t68_94 (by decide) ?_
          refine s_iadd hP t68_95 ?_
          refine s_ishl hP t68_96 ?_
          refine s_iconst (v := 1) hP t68_97 (by decide) ?_
          refine s_iload hP t68_98 rfl ?_
          refine s_ishl hP t68_100 ?_
          refine s_isub hP t68_101 ?_
          refine s_ireturn hP t68_102 rfl rfl ?_
          simp only [mi_rb, mi_rbf, mi_rbl, if_neg e17, if_neg e25, if_pos e40, if_pos e71] at k
          exact k
    · have e25 : (10 : Int32) ≤ s - (y - fy) * (y - fy) := Int32.not_lt.mp q25
      refine s_iconst (v := 0) hP t68_28 (by decide) ?_
      refine s_ireturn hP t68_29 rfl rfl ?_
      simp only [mi_rb, mi_rbf, mi_rbl, if_neg e17, if_pos e25] at k
      exact k
theorem mi_iw_in {x b : Int32} {N : Nat} (hb : b = Int32.ofNat N) (hN : N + 1 < 2 ^ 31) (h : mi_iw x 0 b = true) : vp_in x (N + 1) := by
  subst hb
  simp only [mi_iw, Bool.and_eq_true, decide_eq_true_eq] at h
  refine mi_in hN (Int32.not_lt.mpr h.1) (fun q => ?_)
  have h2 := Int32.le_trans q h.2
  have := mi_leN (by omega) (by omega) h2
  omega
set_option maxHeartbeats 1000000 in
theorem sp58 {d : Nat} {K : am_K} {h : am_H} {a b1 b2 b3 : Nat} {f1 f2 : Nat → Int32} (h1 : am_nth h a = some (.inr (5, [.ref b1, .ref b2, .ref b3]))) (g1 : am_get am_ro h b1 = some (.inl (1, 12, .inl f1))) (g2 : am_get am_ro h b2 = some (.inl (0, 12, .inl f2))) {x : Int32} (k : K (some (.int (am_b (mi_iw x 0 11 && decide (¬ f1 x.toNatClampNeg = 0))))) h) : am_Run (d + 2) 58 [.ref a, .int x] h K := by
  refine ⟨rfl, fun P hm hP => ?_⟩
  show P 0 [some (.ref a), some (.int x)] [] _ 0 0
  refine s_iload_n hP t58_0 rfl ?_
  refine s_iconst (v := 0) hP t58_1 (by decide) ?_
  refine s_bipush (v := 11) hP t58_2 (by decide) ?_
  refine s_invokestatic (bc' := 0) (bs' := 0) hP t58_4 rfl rfl rfl rfl rfl ?_
  refine sp84 ?_
  refine s_zeq hP t58_7 (fun q7 => ?_) (fun q7 => ?_)
  · refine s_iconst (v := 0) hP t58_23 (by decide) ?_
    refine s_ireturn hP t58_24 rfl rfl ?_
    simpa [am_b, q7] using k
  · refine s_aload_n hP t58_10 rfl ?_
    refine s_getfield hP t58_11 h1 rfl ?_
    refine s_iload_n hP t58_14 rfl ?_
    refine s_caload hP t58_15 g1 (mi_iw_in (N := 11) rfl (by decide) q7) ?_
    refine s_if_eq hP t58_16 (fun q16 => ?_) (fun q16 => ?_)
    · refine s_iconst (v := 0) hP t58_23 (by decide) ?_
      refine s_ireturn hP t58_24 rfl rfl ?_
      simpa [am_b, q7, q16] using k
    · refine s_iconst (v := 1) hP t58_19 (by decide) ?_
      refine s_goto hP t58_20 ?_
      refine s_ireturn hP t58_24 rfl rfl ?_
      simpa [am_b, q7, q16] using k
set_option maxHeartbeats 1000000 in
theorem sp60 {d : Nat} {K : am_K} {h : am_H} {a b1 b2 b3 : Nat} {f1 f2 : Nat → Int32} (h1 : am_nth h a = some (.inr (5, [.ref b1, .ref b2, .ref b3]))) (g1 : am_get am_ro h b1 = some (.inl (1, 12, .inl f1))) (g2 : am_get am_ro h b2 = some (.inl (0, 12, .inl f2))) {x y : Int32} (k : K (some (.int (am_b (mi_iw x 0 11 && (mi_iw y 0 11 && (decide (f1 x.toNatClampNeg = f1 y.toNatClampNeg) && decide (f2 x.toNatClampNeg = f2 y.toNatClampNeg))))))) h) : am_Run (d + 2) 60 [.ref a, .int x, .int y] h K := by
  refine ⟨rfl, fun P hm hP => ?_⟩
  show P 0 [some (.ref a), some (.int x), some (.int y)] [] _ 0 0
  refine s_iload_n hP t60_0 rfl ?_
  refine s_iconst (v := 0) hP t60_1 (by decide) ?_
  refine s_bipush (v := 11) hP t60_2 (by decide) ?_
  refine s_invokestatic (bc' := 0) (bs' := 0) hP t60_4 rfl rfl rfl rfl rfl ?_
  refine sp84 ?_
  refine s_zeq hP t60_7 (fun q7 => ?_) (fun q7 => ?_)
  · refine s_iconst (v := 0) hP t60_54 (by decide) ?_
    refine s_ireturn hP t60_55 rfl rfl ?_
    simpa [am_b, q7] using k
  · refine s_iload_n hP t60_10 rfl ?_
    refine s_iconst (v := 0) hP t60_11 (by decide) ?_
    refine s_bipush (v := 11) hP t60_12 (by decide) ?_
    refine s_invokestatic (bc' := 0) (bs' := 0) hP t60_14 rfl rfl rfl rfl rfl ?_
    refine sp84 ?_
    refine s_zeq hP t60_17 (fun q17 => ?_) (fun q17 => ?_)
    · refine s_iconst (v := 0) hP t60_54 (by decide) ?_
      refine s_ireturn hP t60_55 rfl rfl ?_
      simpa [am_b, q7, q17] using k
    · refine s_aload_n hP t60_20 rfl ?_
      refine s_getfield hP t60_21 h1 rfl ?_
      refine s_iload_n hP t60_24 rfl ?_
      refine s_caload hP t60_25 g1 (mi_iw_in (N := 11) rfl (by decide) q7) ?_
      refine s_aload_n hP t60_26 rfl ?_
      refine s_getfield hP t60_27 h1 rfl ?_
      refine s_iload_n hP t60_30 rfl ?_
      refine s_caload hP t60_31 g1 (mi_iw_in (N := 11) rfl (by decide) q17) ?_
      refine s_icmp_ne hP t60_32 (fun q32 => ?_) (fun q32 => ?_)
      · refine s_iconst (v := 0) hP t60_54 (by decide) ?_
        refine s_ireturn hP t60_55 rfl rfl ?_
        simpa [am_b, q7, q17, q32] using k
      · refine s_aload_n hP t60_35 rfl ?_
        refine s_getfield hP t60_36 h1 rfl ?_
        refine s_iload_n hP t60_39 rfl ?_
        refine s_iaload hP t60_40 g2 (mi_iw_in (N := 11) rfl (by decide) q7) ?_
        refine s_aload_n hP t60_41 rfl ?_
        refine s_getfield hP t60_42 h1 rfl ?_
        refine s_iload_n hP t60_45 rfl ?_
        refine s_iaload hP t60_46 g2 (mi_iw_in (N := 11) rfl (by decide) q17) ?_
        refine s_icmp_ne hP t60_47 (fun q47 => ?_) (fun q47 => ?_)
        · refine s_iconst (v := 0) hP t60_54 (by decide) ?_
          refine s_ireturn hP t60_55 rfl rfl ?_
          simpa [am_b, q7, q17, q32, q47] using k
        · refine s_iconst (v := 1) hP t60_50 (by decide) ?_
          refine s_goto hP t60_51 ?_
          refine s_ireturn hP t60_55 rfl rfl ?_
          simpa [am_b, q7, q17, q32, q47] using k
set_option maxHeartbeats 1000000 in
theorem sp54 {d : Nat} {K : am_K} {h : am_H} {a b1 b2 b3 b4 b5 : Nat} {sz : Int32} (h1 : am_nth h a = some (.inr (4, [.ref b1, .ref b2, .ref b3, .ref b4, .ref b5, .int sz]))) {x : Int32} (k : K (some (.int (am_b (mi_iw x 0 (sz - 1))))) h) : am_Run (d + 2) 54 [.ref a, .int x] h K := by
  refine ⟨rfl, fun P hm hP => ?_⟩
  show P 0 [some (.ref a), some (.int x)] [] _ 0 0
  refine s_iload_n hP t54_0 rfl ?_
  refine s_iconst (v := 0) hP t54_1 (by decide) ?_
  refine s_aload_n hP t54_2 rfl ?_
  refine s_getfield hP t54_3 h1 rfl ?_
  refine s_iconst (v := 1) hP t54_6 (by decide) ?_
  refine s_isub hP t54_7 ?_
  refine s_invokestatic (bc' := 0) (bs' := 0) hP t54_8 rfl rfl rfl rfl rfl ?_
  refine sp84 ?_
  refine s_ireturn hP t54_11 rfl (am_nar_b _) ?_
  exact k
def mi_op (x : Int32) : Bool := decide (x = 114) || decide (x = 105)
set_option maxHeartbeats 1000000 in
theorem sp55 {d : Nat} {K : am_K} {h : am_H} {a b1 b2 b3 b4 b5 : Nat} {sz : Int32} {f1 : Nat → Int32} (h1 : am_nth h a = some (.inr (4, [.ref b1, .ref b2, .ref b3, .ref b4, .ref b5, .int sz]))) (g1 : am_get am_ro h b1 = some (.inl (0, 64, .inl f1))) {x : Int32} (hx : vp_in x 64) (hb : mi_iw x 0 (sz - 1) = true) (k : K (some (.int (am_b (mi_op (f1 x.toNatClampNeg))))) h) : am_Run (d + 3) 55 [.ref a, .int x] h K := by
  refine ⟨rfl, fun P hm hP => ?_⟩
  show P 0 [some (.ref a), some (.int x)] [] _ 0 0
  refine s_aload_n hP t55_0 rfl ?_
  refine s_iload_n hP t55_1 rfl ?_
  refine s_invokevirtual (bc' := 0) (bs' := 0) hP t55_2 rfl h1 rfl rfl rfl ?_
  refine sp54 h1 ?_
  rw [hb]
  refine s_zeq hP t55_5 (fun q5 => ?_) (fun q5 => ?_)
  · cases q5
  · refine s_aload_n hP t55_8 rfl ?_
    refine s_getfield hP t55_9 h1 rfl ?_
    refine s_iload_n hP t55_12 rfl ?_
    refine s_iaload hP t55_13 g1 hx ?_
    refine s_bipush (v := 114) hP t55_14 (by decide) ?_
    refine s_icmp_eq hP t55_16 (fun q16 => ?_) (fun q16 => ?_)
    · refine s_iconst (v := 1) hP t55_30 (by decide) ?_
      refine s_goto hP t55_31 ?_
      refine s_ireturn hP t55_35 rfl rfl ?_
      simpa [am_b, mi_op, q5, q16] using k
    · refine s_aload_n hP t55_19 rfl ?_
      refine s_getfield hP t55_20 h1 rfl ?_
      refine s_iload_n hP t55_23 rfl ?_
      refine s_iaload hP t55_24 g1 hx ?_
      refine s_bipush (v := 105) hP t55_25 (by decide) ?_
      refine s_icmp_ne hP t55_27 (fun q27 => ?_) (fun q27 => ?_)
      · refine s_iconst (v := 0) hP t55_34 (by decide) ?_
        refine s_ireturn hP t55_35 rfl rfl ?_
        simpa [am_b, mi_op, q5, q16, q27] using k
      · refine s_iconst (v := 1) hP t55_30 (by decide) ?_
        refine s_goto hP t55_31 ?_
        refine s_ireturn hP t55_35 rfl rfl ?_
        simpa [am_b, mi_op, q5, q16, q27] using k
set_option maxHeartbeats 1000000 in
theorem sp161 {d : Nat} {K : am_K} {h : am_H} {a b1 b2 b3 b4 b5 : Nat} {sz : Int32} {f1 : Nat → Int32} (h1 : am_nth h a = some (.inr (4, [.ref b1, .ref b2, .ref b3, .ref b4, .ref b5, .int sz]))) (g1 : am_get am_ro h b5 = some (.inl (0, 64, .inl f1))) {x : Int32} (hx : vp_in x 64) (hb : mi_iw x 0 (sz - 1) = true) (k : K (some (.int (f1 x.toNatClampNeg))) h) : am_Run (d + 3) 161 [.ref a, .int x] h K := by
  refine ⟨rfl, fun P hm hP => ?_⟩
  show P 0 [some (.ref a), some (.int x)] [] _ 0 0
  refine s_aload_n hP t161_0 rfl ?_
  refine s_iload_n hP t161_1 rfl ?_
  refine s_invokevirtual (bc' := 0) (bs' := 0) hP t161_2 rfl h1 rfl rfl rfl ?_
  refine sp54 h1 ?_
  rw [hb]
  refine s_zeq hP t161_5 (fun q5 => ?_) (fun q5 => ?_)
  · cases q5
  · refine s_aload_n hP t161_8 rfl ?_
    refine s_getfield hP t161_9 h1 rfl ?_
    refine s_iload_n hP t161_12 rfl ?_
    refine s_iaload hP t161_13 g1 hx ?_
    refine s_goto hP t161_14 ?_
    refine s_ireturn hP t161_18 rfl rfl ?_
    exact k
