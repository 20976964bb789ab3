/-! WHAT FOLLOWS A BLOCK; WHAT A BLOCK DOES. (rows by gen/sp15.py) -/
def me_ent (k a b : Int32) : Bool := if k = 114 then decide (0 < a) else decide (b < a)
def me_loop (ha : Nat → Nat → Int32) (hz : Int32) (N : Nat) : Bool := mi_iw (ha 9 N) 0 (hz - 1) && decide (ha 5 (ha 9 N).toNatClampNeg = 114)
def me_cn (ha : Nat → Nat → Int32) (hz : Int32) (N : Nat) (a : Nat → Nat → Int32) (s : Nat → Int32) : Int32 := if me_loop ha hz N = true ∧ 0 < a 4 (ha 9 N).toNatClampNeg - 1 then ha 9 N + 1 else s 8 + 1
def me_ca (ha : Nat → Nat → Int32) (hz : Int32) (N : Nat) (a : Nat → Nat → Int32) : Nat → Nat → Int32 := if me_loop ha hz N = true then am_u2 a 4 (upd (a 4) (ha 9 N).toNatClampNeg (a 4 (ha 9 N).toNatClampNeg - 1)) else a
def me_nx (ha : Nat → Nat → Int32) (hz : Int32) (N : Nat) (a : Nat → Nat → Int32) (s : Nat → Int32) : Int32 :=
  if s 16 = 114 ∨ s 16 = 105 then (if me_ent (s 16) (s 17) (s 18) = true then s 8 + 1 else ha 9 N + 1)
  else if s 16 = 101 then me_cn ha hz N a s else s 8 + 1
def me_ar (ha : Nat → Nat → Int32) (hz : Int32) (N : Nat) (a : Nat → Nat → Int32) (s : Nat → Int32) (lv : Nat) : Nat → Nat → Int32 :=
  if s 16 = 118 then am_u2 a 2 (upd (a 2) (s 17).toNatClampNeg (mc_clip (s 18 + s 19)))
  else if s 16 = 120 then am_u2 a 2 (upd (a 2) (s 17).toNatClampNeg (mc_clip (nI lv)))
  else if s 16 = 114 ∨ s 16 = 105 then (if me_ent (s 16) (s 17) (s 18) = true then am_u2 a 4 (upd (a 4) N (s 17)) else a)
  else if s 16 = 101 then me_ca ha hz N a else a
def me_st (ha : Nat → Nat → Int32) (a : Nat → Nat → Int32) (s : Nat → Int32) : Nat → Int32 :=
  if s 16 = 116 then am_u1 s 10 (mc_take ha (a 1) (s 17).toNatClampNeg (s 18).toNatClampNeg)
  else if s 16 = 115 then am_u1 s 15 (am_b (decide (s 17 = 1)))
  else if s 16 = 102 then am_u1 s 12 (s 17)
  else if s 16 = 109 then am_u1 s 14 (am_b (decide (s 17 = 1)))
  else if s 16 = 111 then am_u1 s 13 (s 17) else s
theorem mi_iw_M {x : Int32} {M : Nat} (hM : M ≤ 64) (h : mi_iw x 0 (nI M - 1) = true) : vp_in x 64 := by
  cases M with
  | zero =>
    simp only [mi_iw, Bool.and_eq_true, decide_eq_true_eq] at h
    exact absurd (Int32.le_trans h.1 h.2) (by decide +kernel)
  | succ M =>
    rw [nI_pred] at h
    obtain ⟨j, hj, rfl⟩ := mi_iw_nI (N := M) rfl (by omega) h
    exact vp_in_nI (by omega) (by decide)
set_option maxHeartbeats 2000000 in
theorem sp38_1 {d : Nat} {K : am_K} {ha : Nat → Nat → Int32} {hz : Int32} {a1 : Nat → Nat → Int32} {s1 : Nat → Int32} {t1 : UInt32} {a2 : Nat → Nat → Int32} {s2 : Nat → Int32} {t2 : UInt32} {al : Int32} {ma : Nat → Nat → Int32} {ms : Nat → Int32} {mt : UInt32} {ol : Nat → Int64} {od : Nat → UInt64} {N : Nat} (hN : s1 8 = nI N) (hN9 : N < 64) {M : Nat} (hM : hz = nI M) (hM9 : M ≤ 64) (hNM : N < M) (k1 : me_ent (s1 16) (s1 17) (s1 18) = true → K (some (.int (s1 8 + 1))) (am_W ha hz (am_u2 a1 4 (upd (a1 4) N (s1 17))) s1 t1 a2 s2 t2 al ma ms mt ol od)) (k0 : me_ent (s1 16) (s1 17) (s1 18) = false → K (some (.int (ha 9 N + 1))) (am_W ha hz a1 s1 t1 a2 s2 t2 al ma ms mt ol od)) : am_Run (d + 4) 38 [.ref 15] (am_W ha hz a1 s1 t1 a2 s2 t2 al ma ms mt ol od) K := by
  refine ⟨rfl, fun P hm hP => ?_⟩
  show P 0 [some (.ref 15), none] [] _ 0 0
  refine s_aload_n hP t38_0 rfl ?_
  refine s_getfield hP t38_1 rfl rfl ?_
  refine s_bipush (v := 114) hP t38_4 (by decide) ?_
  refine s_icmp_ne hP t38_6 (fun q6 => ?_) (fun q6 => ?_)
  · refine s_aload_n hP t38_24 rfl ?_
    refine s_getfield hP t38_25 rfl rfl ?_
    refine s_aload_n hP t38_28 rfl ?_
    refine s_getfield hP t38_29 rfl rfl ?_
    refine s_icmp_le hP t38_32 (fun q32 => ?_) (fun q32 => ?_)
    · refine s_iconst (v := 0) hP t38_39 (by decide) ?_
      refine s_istore_n_1 hP t38_40 (by exact rfl) ?_
      refine s_iload_n hP t38_41 rfl ?_
      refine s_if_ne hP t38_42 (fun q42 => ?_) (fun q42 => ?_)
      · exact absurd rfl q42
      · refine s_aload_n hP t38_45 rfl ?_
        refine s_getfield hP t38_46 rfl rfl ?_
        refine s_getfield hP t38_49 rfl rfl ?_
        refine s_aload_n hP t38_52 rfl ?_
        refine s_getfield hP t38_53 rfl rfl ?_
        refine s_invokevirtual (bc' := 0) (bs' := 0) hP t38_56 rfl rfl rfl rfl rfl ?_
        refine sp161 rfl rfl (by show vp_in (s1 8) 64; rw [hN]; exact vp_in_nI hN9 (by decide)) (by show mi_iw (s1 8) 0 (hz - 1) = true; rw [hN, hM]; exact mi_iw_blk hNM hM9) ?_
        rw [show (s1 8).toNatClampNeg = N by rw [hN]; exact nI_clamp (by omega)]
        refine s_iconst (v := 1) hP t38_59 (by decide) ?_
        refine s_iadd hP t38_60 ?_
        refine s_ireturn hP t38_61 rfl rfl ?_
        have e9 : me_ent (s1 16) (s1 17) (s1 18) = false := by rw [me_ent, if_neg q6]; exact decide_eq_false (Int32.not_lt.mpr q32)
        exact k0 e9
    · refine s_iconst (v := 1) hP t38_35 (by decide) ?_
      refine s_goto hP t38_36 ?_
      refine s_istore_n_1 hP t38_40 (by exact rfl) ?_
      refine s_iload_n hP t38_41 rfl ?_
      refine s_if_ne hP t38_42 (fun q42 => ?_) (fun q42 => ?_)
      · refine s_aload_n hP t38_62 rfl ?_
        refine s_getfield hP t38_63 rfl rfl ?_
        refine s_getfield hP t38_66 rfl rfl ?_
        refine s_aload_n hP t38_69 rfl ?_
        refine s_getfield hP t38_70 rfl rfl ?_
        refine s_invokevirtual (bc' := 0) (bs' := 0) hP t38_73 rfl rfl rfl rfl rfl ?_
        refine sp54 (sz := nI M) (by rw [← hM]; rfl) ?_
        rw [show mi_iw (s1 8) 0 (nI M - 1) = true by rw [hN]; exact mi_iw_blk hNM hM9]
        refine s_zeq hP t38_76 (fun q76 => ?_) (fun q76 => ?_)
        · cases q76
        · refine s_aload_n hP t38_79 rfl ?_
          refine s_getfield hP t38_80 rfl rfl ?_
          refine s_aload_n hP t38_83 rfl ?_
          refine s_getfield hP t38_84 rfl rfl ?_
          refine s_aload_n hP t38_87 rfl ?_
          refine s_getfield hP t38_88 rfl rfl ?_
          refine s_iastore hP t38_91 rfl (by show vp_in (s1 8) 64; rw [hN]; exact vp_in_nI hN9 (by decide)) ?_
          rw [show (s1 8).toNatClampNeg = N by rw [hN]; exact nI_clamp (by omega)]
          refine s_aload_n hP t38_92 rfl ?_
          refine s_getfield hP t38_93 rfl rfl ?_
          refine s_iconst (v := 1) hP t38_96 (by decide) ?_
          refine s_iadd hP t38_97 ?_
          refine s_ireturn hP t38_98 rfl rfl ?_
          have e9 : me_ent (s1 16) (s1 17) (s1 18) = true := by rw [me_ent, if_neg q6]; exact decide_eq_true (Int32.not_le.mp q32)
          exact k1 e9
      · exact absurd q42 (by decide)
  · refine s_aload_n hP t38_9 rfl ?_
    refine s_getfield hP t38_10 rfl rfl ?_
    refine s_if_le hP t38_13 (fun q13 => ?_) (fun q13 => ?_)
    · refine s_iconst (v := 0) hP t38_20 (by decide) ?_
      refine s_goto hP t38_21 ?_
      refine s_istore_n_1 hP t38_40 (by exact rfl) ?_
      refine s_iload_n hP t38_41 rfl ?_
      refine s_if_ne hP t38_42 (fun q42 => ?_) (fun q42 => ?_)
      · exact absurd rfl q42
      · refine s_aload_n hP t38_45 rfl ?_
        refine s_getfield hP t38_46 rfl rfl ?_
        refine s_getfield hP t38_49 rfl rfl ?_
        refine s_aload_n hP t38_52 rfl ?_
        refine s_getfield hP t38_53 rfl rfl ?_
        refine s_invokevirtual (bc' := 0) (bs' := 0) hP t38_56 rfl rfl rfl rfl rfl ?_
        refine sp161 rfl rfl (by show vp_in (s1 8) 64; rw [hN]; exact vp_in_nI hN9 (by decide)) (by show mi_iw (s1 8) 0 (hz - 1) = true; rw [hN, hM]; exact mi_iw_blk hNM hM9) ?_
        rw [show (s1 8).toNatClampNeg = N by rw [hN]; exact nI_clamp (by omega)]
        refine s_iconst (v := 1) hP t38_59 (by decide) ?_
        refine s_iadd hP t38_60 ?_
        refine s_ireturn hP t38_61 rfl rfl ?_
        have e9 : me_ent (s1 16) (s1 17) (s1 18) = false := by rw [me_ent, if_pos q6]; exact decide_eq_false (Int32.not_lt.mpr q13)
        exact k0 e9
    · refine s_iconst (v := 1) hP t38_16 (by decide) ?_
      refine s_goto hP t38_17 ?_
      refine s_istore_n_1 hP t38_40 (by exact rfl) ?_
      refine s_iload_n hP t38_41 rfl ?_
      refine s_if_ne hP t38_42 (fun q42 => ?_) (fun q42 => ?_)
      · refine s_aload_n hP t38_62 rfl ?_
        refine s_getfield hP t38_63 rfl rfl ?_
        refine s_getfield hP t38_66 rfl rfl ?_
        refine s_aload_n hP t38_69 rfl ?_
        refine s_getfield hP t38_70 rfl rfl ?_
        refine s_invokevirtual (bc' := 0) (bs' := 0) hP t38_73 rfl rfl rfl rfl rfl ?_
        refine sp54 (sz := nI M) (by rw [← hM]; rfl) ?_
        rw [show mi_iw (s1 8) 0 (nI M - 1) = true by rw [hN]; exact mi_iw_blk hNM hM9]
        refine s_zeq hP t38_76 (fun q76 => ?_) (fun q76 => ?_)
        · cases q76
        · refine s_aload_n hP t38_79 rfl ?_
          refine s_getfield hP t38_80 rfl rfl ?_
          refine s_aload_n hP t38_83 rfl ?_
          refine s_getfield hP t38_84 rfl rfl ?_
          refine s_aload_n hP t38_87 rfl ?_
          refine s_getfield hP t38_88 rfl rfl ?_
          refine s_iastore hP t38_91 rfl (by show vp_in (s1 8) 64; rw [hN]; exact vp_in_nI hN9 (by decide)) ?_
          rw [show (s1 8).toNatClampNeg = N by rw [hN]; exact nI_clamp (by omega)]
          refine s_aload_n hP t38_92 rfl ?_
          refine s_getfield hP t38_93 rfl rfl ?_
          refine s_iconst (v := 1) hP t38_96 (by decide) ?_
          refine s_iadd hP t38_97 ?_
          refine s_ireturn hP t38_98 rfl rfl ?_
          have e9 : me_ent (s1 16) (s1 17) (s1 18) = true := by rw [me_ent, if_pos q6]; exact decide_eq_true (Int32.not_le.mp q13)
          exact k1 e9
      · exact absurd q42 (by decide)
set_option maxHeartbeats 2000000 in
theorem sp39_1 {d : Nat} {K : am_K} {ha : Nat → Nat → Int32} {hz : Int32} {a1 : Nat → Nat → Int32} {s1 : Nat → Int32} {t1 : UInt32} {a2 : Nat → Nat → Int32} {s2 : Nat → Int32} {t2 : UInt32} {al : Int32} {ma : Nat → Nat → Int32} {ms : Nat → Int32} {mt : UInt32} {ol : Nat → Int64} {od : Nat → UInt64} {N : Nat} (hN : s1 8 = nI N) (hN9 : N < 64) {M : Nat} (hM : hz = nI M) (hM9 : M ≤ 64) (hNM : N < M) (k : K (some (.int (me_cn ha hz N a1 s1))) (am_W ha hz (me_ca ha hz N a1) s1 t1 a2 s2 t2 al ma ms mt ol od)) : am_Run (d + 4) 39 [.ref 15] (am_W ha hz a1 s1 t1 a2 s2 t2 al ma ms mt ol od) K := by
  refine ⟨rfl, fun P hm hP => ?_⟩
  show P 0 [some (.ref 15), none] [] _ 0 0
  refine s_aload_n hP t39_0 rfl ?_
  refine s_getfield hP t39_1 rfl rfl ?_
  refine s_getfield hP t39_4 rfl rfl ?_
  refine s_aload_n hP t39_7 rfl ?_
  refine s_getfield hP t39_8 rfl rfl ?_
  refine s_invokevirtual (bc' := 0) (bs' := 0) hP t39_11 rfl rfl rfl rfl rfl ?_
  refine sp161 rfl rfl (by show vp_in (s1 8) 64; rw [hN]; exact vp_in_nI hN9 (by decide)) (by show mi_iw (s1 8) 0 (hz - 1) = true; rw [hN, hM]; exact mi_iw_blk hNM hM9) ?_
  rw [show (s1 8).toNatClampNeg = N by rw [hN]; exact nI_clamp (by omega)]
  refine s_istore_n_1 hP t39_14 (by exact rfl) ?_
  refine s_aload_n hP t39_15 rfl ?_
  refine s_getfield hP t39_16 rfl rfl ?_
  refine s_getfield hP t39_19 rfl rfl ?_
  refine s_iload_n hP t39_22 rfl ?_
  refine s_invokevirtual (bc' := 0) (bs' := 0) hP t39_23 rfl rfl rfl rfl rfl ?_
  refine sp54 (sz := nI M) (by rw [← hM]; rfl) ?_
  refine s_zeq hP t39_26 (fun q26 => ?_) (fun q26 => ?_)
  · refine s_aload_n hP t39_46 rfl ?_
    refine s_getfield hP t39_47 rfl rfl ?_
    refine s_iconst (v := 1) hP t39_50 (by decide) ?_
    refine s_iadd hP t39_51 ?_
    refine s_ireturn hP t39_52 rfl rfl ?_
    have e9 : me_loop ha hz N = false := by rw [me_loop, (show mi_iw (ha 9 N) 0 (hz - 1) = false by rw [hM]; exact q26)]; rfl
    have ea : me_ca ha hz N a1 = a1 := by rw [me_ca, e9]; rfl
    have en : me_cn ha hz N a1 s1 = s1 8 + 1 := by rw [me_cn, if_neg (fun q => by rw [e9] at q; cases q.1)]
    rw [ea, en] at k
    exact k
  · refine s_aload_n hP t39_29 rfl ?_
    refine s_getfield hP t39_30 rfl rfl ?_
    refine s_getfield hP t39_33 rfl rfl ?_
    refine s_getfield hP t39_36 rfl rfl ?_
    refine s_iload_n hP t39_39 rfl ?_
    refine s_iaload hP t39_40 rfl (mi_iw_M hM9 q26) ?_
    refine s_bipush (v := 114) hP t39_41 (by decide) ?_
    refine s_icmp_eq hP t39_43 (fun q43 => ?_) (fun q43 => ?_)
    · refine s_aload_n hP t39_53 rfl ?_
      refine s_getfield hP t39_54 rfl rfl ?_
      refine s_iload_n hP t39_57 rfl ?_
      refine s_dup2 hP t39_58 rfl rfl ?_
      refine s_iaload hP t39_59 rfl (mi_iw_M hM9 q26) ?_
      refine s_iconst (v := 1) hP t39_60 (by decide) ?_
      refine s_isub hP t39_61 ?_
      refine s_iastore hP t39_62 rfl (mi_iw_M hM9 q26) ?_
      refine s_aload_n hP t39_63 rfl ?_
      refine s_getfield hP t39_64 rfl rfl ?_
      refine s_iload_n hP t39_67 rfl ?_
      refine s_iaload hP t39_68 rfl (mi_iw_M hM9 q26) ?_
      refine s_if_le hP t39_69 (fun q69 => ?_) (fun q69 => ?_)
      · refine s_aload_n hP t39_78 rfl ?_
        refine s_getfield hP t39_79 rfl rfl ?_
        refine s_iconst (v := 1) hP t39_82 (by decide) ?_
        refine s_iadd hP t39_83 ?_
        refine s_ireturn hP t39_84 rfl rfl ?_
        have e9 : me_loop ha hz N = true := by rw [me_loop, (show mi_iw (ha 9 N) 0 (hz - 1) = true by rw [hM]; exact q26), decide_eq_true q43]; rfl
        have q9 := q69
        rw [show upd (a1 4) (ha 9 N).toNatClampNeg _ (ha 9 N).toNatClampNeg = _ from pk_us] at q9
        have en : me_cn ha hz N a1 s1 = s1 8 + 1 := by rw [me_cn, if_neg (fun q => Int32.not_lt.mpr q9 q.2)]
        rw [me_ca, if_pos e9, en] at k
        exact k
      · refine s_iload_n hP t39_72 rfl ?_
        refine s_iconst (v := 1) hP t39_73 (by decide) ?_
        refine s_iadd hP t39_74 ?_
        refine s_goto hP t39_75 ?_
        refine s_ireturn hP t39_84 rfl rfl ?_
        have e9 : me_loop ha hz N = true := by rw [me_loop, (show mi_iw (ha 9 N) 0 (hz - 1) = true by rw [hM]; exact q26), decide_eq_true q43]; rfl
        have q9 := q69
        rw [show upd (a1 4) (ha 9 N).toNatClampNeg _ (ha 9 N).toNatClampNeg = _ from pk_us] at q9
        have en : me_cn ha hz N a1 s1 = ha 9 N + 1 := by rw [me_cn, if_pos ⟨e9, Int32.not_le.mp q9⟩]
        rw [me_ca, if_pos e9, en] at k
        exact k
    · refine s_aload_n hP t39_46 rfl ?_
      refine s_getfield hP t39_47 rfl rfl ?_
      refine s_iconst (v := 1) hP t39_50 (by decide) ?_
      refine s_iadd hP t39_51 ?_
      refine s_ireturn hP t39_52 rfl rfl ?_
      have e9 : me_loop ha hz N = false := by rw [me_loop, (show mi_iw (ha 9 N) 0 (hz - 1) = true by rw [hM]; exact q26), decide_eq_false q43]; rfl
      have ea : me_ca ha hz N a1 = a1 := by rw [me_ca, e9]; rfl
      have en : me_cn ha hz N a1 s1 = s1 8 + 1 := by rw [me_cn, if_neg (fun q => by rw [e9] at q; cases q.1)]
      rw [ea, en] at k
      exact k
set_option maxHeartbeats 4000000 in
theorem sp33_1 {d : Nat} {K : am_K} {ha : Nat → Nat → Int32} {hz : Int32} {a1 : Nat → Nat → Int32} {s1 : Nat → Int32} {t1 : UInt32} {a2 : Nat → Nat → Int32} {s2 : Nat → Int32} {t2 : UInt32} {al : Int32} {ma : Nat → Nat → Int32} {ms : Nat → Int32} {mt : UInt32} {ol : Nat → Int64} {od : Nat → UInt64} (hk : mi_kind (s1 16) = true) {N : Nat} (hN : s1 8 = nI N) (hN9 : N < 64) {M : Nat} (hM : hz = nI M) (hM9 : M ≤ 64) (hNM : N < M) {S : Nat → Bool} {sh R X Y Z : Nat} (hS : ∀ j, j < 72 → a1 0 j = mr_w (fun q => S (16 * j + q))) (hs : s1 16 = 120 → s1 21 = nI sh ∧ s1 22 = nI R) (hsh : sh = 101 ∨ sh = 98 ∨ sh = 118) (hR : R < 4) (hP9 : s1 16 = 120 → a1 3 0 = nI X ∧ a1 3 1 = nI Y ∧ a1 3 2 = nI Z) (hX9 : X < 16) (hY9 : Y < 12) (hZ9 : Z < 10) (h116 : s1 16 = 116 → ∃ A B, s1 17 = nI A ∧ s1 18 = nI B ∧ A < 3 ∧ B < 4) (h118 : s1 16 = 118 ∨ s1 16 = 120 → mi_iw (s1 17) 0 7 = true) (k : ∀ x y z : Int32, K none (am_W ha hz (me_ar ha hz N a1 s1 (me_lev (fun l => mx_d (mx_meet S sh R X Y l)) Z)) (am_u1 (mc_mv (me_st ha a1 s1) x y z) 8 (me_nx ha hz N a1 s1)) t1 a2 s2 t2 al ma ms mt ol od)) : am_Run (d + 5) 33 [.ref 15] (am_W ha hz a1 s1 t1 a2 s2 t2 al ma ms mt ol od) K := by
  refine ⟨rfl, fun P hm hP => ?_⟩
  show P 0 [some (.ref 15), none] [] _ 0 0
  refine s_aload_n hP t33_0 rfl ?_
  refine s_getfield hP t33_1 rfl rfl ?_
  refine s_iconst (v := 1) hP t33_4 (by decide) ?_
  refine s_iadd hP t33_5 ?_
  refine s_istore_n_1 hP t33_6 (by exact rfl) ?_
  refine s_aload_n hP t33_7 rfl ?_
  refine s_getfield hP t33_8 rfl rfl ?_
  rcases mi_kind_cases hk with hk9 | hk9 | hk9 | hk9 | hk9 | hk9 | hk9 | hk9 | hk9 | hk9 | hk9 | hk9 | hk9 | hk9 | hk9
  · rw [hk9]
    refine s_swin (off := 217) (tgt := 228) hP t33_11 (by decide) (by decide) rfl (by decide) ?_
    refine s_aload_n hP t33_228 rfl ?_
    refine s_iload_n hP t33_229 rfl ?_
    refine s_putfield hP t33_230 rfl rfl rfl rfl ?_
    refine s_return_ hP t33_233 rfl ?_
    have k9 := k (me_st ha a1 s1 23) (me_st ha a1 s1 24) (me_st ha a1 s1 25)
    rw [mc_mv_self] at k9
    rw [me_nx, if_neg (by rw [hk9]; decide), if_neg (by rw [hk9]; decide)] at k9
    rw [me_ar, if_neg (by rw [hk9]; decide), if_neg (by rw [hk9]; decide), if_neg (by rw [hk9]; decide), if_neg (by rw [hk9]; decide)] at k9
    rw [me_st, if_neg (by rw [hk9]; decide), if_neg (by rw [hk9]; decide), if_neg (by rw [hk9]; decide), if_neg (by rw [hk9]; decide), if_neg (by rw [hk9]; decide)] at k9
    exact k9
  · rw [hk9]
    refine s_swin (off := 217) (tgt := 228) hP t33_11 (by decide) (by decide) rfl (by decide) ?_
    refine s_aload_n hP t33_228 rfl ?_
    refine s_iload_n hP t33_229 rfl ?_
    refine s_putfield hP t33_230 rfl rfl rfl rfl ?_
    refine s_return_ hP t33_233 rfl ?_
    have k9 := k (me_st ha a1 s1 23) (me_st ha a1 s1 24) (me_st ha a1 s1 25)
    rw [mc_mv_self] at k9
    rw [me_nx, if_neg (by rw [hk9]; decide), if_neg (by rw [hk9]; decide)] at k9
    rw [me_ar, if_neg (by rw [hk9]; decide), if_neg (by rw [hk9]; decide), if_neg (by rw [hk9]; decide), if_neg (by rw [hk9]; decide)] at k9
    rw [me_st, if_neg (by rw [hk9]; decide), if_neg (by rw [hk9]; decide), if_neg (by rw [hk9]; decide), if_neg (by rw [hk9]; decide), if_neg (by rw [hk9]; decide)] at k9
    exact k9
  · rw [hk9]
    refine s_swout (tgt := 228) hP t33_11 (by decide) (by decide) ?_
    refine s_aload_n hP t33_228 rfl ?_
    refine s_iload_n hP t33_229 rfl ?_
    refine s_putfield hP t33_230 rfl rfl rfl rfl ?_
    refine s_return_ hP t33_233 rfl ?_
    have k9 := k (me_st ha a1 s1 23) (me_st ha a1 s1 24) (me_st ha a1 s1 25)
    rw [mc_mv_self] at k9
    rw [me_nx, if_neg (by rw [hk9]; decide), if_neg (by rw [hk9]; decide)] at k9
    rw [me_ar, if_neg (by rw [hk9]; decide), if_neg (by rw [hk9]; decide), if_neg (by rw [hk9]; decide), if_neg (by rw [hk9]; decide)] at k9
    rw [me_st, if_neg (by rw [hk9]; decide), if_neg (by rw [hk9]; decide), if_neg (by rw [hk9]; decide), if_neg (by rw [hk9]; decide), if_neg (by rw [hk9]; decide)] at k9
    exact k9
  · rw [hk9]
    refine s_swin (off := 217) (tgt := 228) hP t33_11 (by decide) (by decide) rfl (by decide) ?_
    refine s_aload_n hP t33_228 rfl ?_
    refine s_iload_n hP t33_229 rfl ?_
    refine s_putfield hP t33_230 rfl rfl rfl rfl ?_
    refine s_return_ hP t33_233 rfl ?_
    have k9 := k (me_st ha a1 s1 23) (me_st ha a1 s1 24) (me_st ha a1 s1 25)
    rw [mc_mv_self] at k9
    rw [me_nx, if_neg (by rw [hk9]; decide), if_neg (by rw [hk9]; decide)] at k9
    rw [me_ar, if_neg (by rw [hk9]; decide), if_neg (by rw [hk9]; decide), if_neg (by rw [hk9]; decide), if_neg (by rw [hk9]; decide)] at k9
    rw [me_st, if_neg (by rw [hk9]; decide), if_neg (by rw [hk9]; decide), if_neg (by rw [hk9]; decide), if_neg (by rw [hk9]; decide), if_neg (by rw [hk9]; decide)] at k9
    exact k9
  · rw [hk9]
    refine s_swin (off := 93) (tgt := 104) hP t33_11 (by decide) (by decide) rfl (by decide) ?_
    refine s_aload_n hP t33_104 rfl ?_
    refine s_aload_n hP t33_105 rfl ?_
    refine s_invokevirtual (bc' := 0) (bs' := 0) hP t33_106 rfl rfl rfl rfl rfl ?_
    obtain ⟨A, B, hA, hB, hA3, hB4⟩ := h116 hk9
    refine sp23_1 (A := A) (B := B) hA hB hA3 hB4 ?_
    refine s_putfield hP t33_109 rfl rfl rfl rfl ?_
    refine s_goto hP t33_112 ?_
    refine s_aload_n hP t33_228 rfl ?_
    refine s_iload_n hP t33_229 rfl ?_
    refine s_putfield hP t33_230 rfl rfl rfl rfl ?_
    refine s_return_ hP t33_233 rfl ?_
    have k9 := k (me_st ha a1 s1 23) (me_st ha a1 s1 24) (me_st ha a1 s1 25)
    rw [mc_mv_self] at k9
    rw [me_nx, if_neg (by rw [hk9]; decide), if_neg (by rw [hk9]; decide)] at k9
    rw [me_ar, if_neg (by rw [hk9]; decide), if_neg (by rw [hk9]; decide), if_neg (by rw [hk9]; decide), if_neg (by rw [hk9]; decide)] at k9
    rw [me_st, if_pos hk9, hA, hB, nI_clamp (by omega), nI_clamp (by omega)] at k9
    exact k9
  · rw [hk9]
    refine s_swin (off := 104) (tgt := 115) hP t33_11 (by decide) (by decide) rfl (by decide) ?_
    refine s_aload_n hP t33_115 rfl ?_
    refine s_aload_n hP t33_116 rfl ?_
    refine s_getfield hP t33_117 rfl rfl ?_
    refine s_iconst (v := 1) hP t33_120 (by decide) ?_
    refine s_icmp_ne hP t33_121 (fun q121 => ?_) (fun q121 => ?_)
    · refine s_iconst (v := 0) hP t33_128 (by decide) ?_
      refine s_putfield hP t33_129 rfl rfl rfl rfl ?_
      refine s_goto hP t33_132 ?_
      refine s_aload_n hP t33_228 rfl ?_
      refine s_iload_n hP t33_229 rfl ?_
      refine s_putfield hP t33_230 rfl rfl rfl rfl ?_
      refine s_return_ hP t33_233 rfl ?_
      have k9 := k (me_st ha a1 s1 23) (me_st ha a1 s1 24) (me_st ha a1 s1 25)
      rw [mc_mv_self] at k9
      rw [me_nx, if_neg (by rw [hk9]; decide), if_neg (by rw [hk9]; decide)] at k9
      rw [me_ar, if_neg (by rw [hk9]; decide), if_neg (by rw [hk9]; decide), if_neg (by rw [hk9]; decide), if_neg (by rw [hk9]; decide)] at k9
      rw [me_st, if_neg (by rw [hk9]; decide), if_pos hk9, decide_eq_false q121] at k9
      exact k9
    · refine s_iconst (v := 1) hP t33_124 (by decide) ?_
      refine s_goto hP t33_125 ?_
      refine s_putfield hP t33_129 rfl rfl rfl rfl ?_
      refine s_goto hP t33_132 ?_
      refine s_aload_n hP t33_228 rfl ?_
      refine s_iload_n hP t33_229 rfl ?_
      refine s_putfield hP t33_230 rfl rfl rfl rfl ?_
      refine s_return_ hP t33_233 rfl ?_
      have k9 := k (me_st ha a1 s1 23) (me_st ha a1 s1 24) (me_st ha a1 s1 25)
      rw [mc_mv_self] at k9
      rw [me_nx, if_neg (by rw [hk9]; decide), if_neg (by rw [hk9]; decide)] at k9
      rw [me_ar, if_neg (by rw [hk9]; decide), if_neg (by rw [hk9]; decide), if_neg (by rw [hk9]; decide), if_neg (by rw [hk9]; decide)] at k9
      rw [me_st, if_neg (by rw [hk9]; decide), if_pos hk9, decide_eq_true q121] at k9
      exact k9
  · rw [hk9]
    refine s_swin (off := 124) (tgt := 135) hP t33_11 (by decide) (by decide) rfl (by decide) ?_
    refine s_aload_n hP t33_135 rfl ?_
    refine s_aload_n hP t33_136 rfl ?_
    refine s_getfield hP t33_137 rfl rfl ?_
    refine s_putfield hP t33_140 rfl rfl rfl rfl ?_
    refine s_goto hP t33_143 ?_
    refine s_aload_n hP t33_228 rfl ?_
    refine s_iload_n hP t33_229 rfl ?_
    refine s_putfield hP t33_230 rfl rfl rfl rfl ?_
    refine s_return_ hP t33_233 rfl ?_
    have k9 := k (me_st ha a1 s1 23) (me_st ha a1 s1 24) (me_st ha a1 s1 25)
    rw [mc_mv_self] at k9
    rw [me_nx, if_neg (by rw [hk9]; decide), if_neg (by rw [hk9]; decide)] at k9
    rw [me_ar, if_neg (by rw [hk9]; decide), if_neg (by rw [hk9]; decide), if_neg (by rw [hk9]; decide), if_neg (by rw [hk9]; decide)] at k9
    rw [me_st, if_neg (by rw [hk9]; decide), if_neg (by rw [hk9]; decide), if_pos hk9] at k9
    exact k9
  · rw [hk9]
    refine s_swin (off := 135) (tgt := 146) hP t33_11 (by decide) (by decide) rfl (by decide) ?_
    refine s_aload_n hP t33_146 rfl ?_
    refine s_aload_n hP t33_147 rfl ?_
    refine s_getfield hP t33_148 rfl rfl ?_
    refine s_iconst (v := 1) hP t33_151 (by decide) ?_
    refine s_icmp_ne hP t33_152 (fun q152 => ?_) (fun q152 => ?_)
    · refine s_iconst (v := 0) hP t33_159 (by decide) ?_
      refine s_putfield hP t33_160 rfl rfl rfl rfl ?_
      refine s_goto hP t33_163 ?_
      refine s_aload_n hP t33_228 rfl ?_
      refine s_iload_n hP t33_229 rfl ?_
      refine s_putfield hP t33_230 rfl rfl rfl rfl ?_
      refine s_return_ hP t33_233 rfl ?_
      have k9 := k (me_st ha a1 s1 23) (me_st ha a1 s1 24) (me_st ha a1 s1 25)
      rw [mc_mv_self] at k9
      rw [me_nx, if_neg (by rw [hk9]; decide), if_neg (by rw [hk9]; decide)] at k9
      rw [me_ar, if_neg (by rw [hk9]; decide), if_neg (by rw [hk9]; decide), if_neg (by rw [hk9]; decide), if_neg (by rw [hk9]; decide)] at k9
      rw [me_st, if_neg (by rw [hk9]; decide), if_neg (by rw [hk9]; decide), if_neg (by rw [hk9]; decide), if_pos hk9, decide_eq_false q152] at k9
      exact k9
    · refine s_iconst (v := 1) hP t33_155 (by decide) ?_
      refine s_goto hP t33_156 ?_
      refine s_putfield hP t33_160 rfl rfl rfl rfl ?_
      refine s_goto hP t33_163 ?_
      refine s_aload_n hP t33_228 rfl ?_
      refine s_iload_n hP t33_229 rfl ?_
      refine s_putfield hP t33_230 rfl rfl rfl rfl ?_
      refine s_return_ hP t33_233 rfl ?_
      have k9 := k (me_st ha a1 s1 23) (me_st ha a1 s1 24) (me_st ha a1 s1 25)
      rw [mc_mv_self] at k9
      rw [me_nx, if_neg (by rw [hk9]; decide), if_neg (by rw [hk9]; decide)] at k9
      rw [me_ar, if_neg (by rw [hk9]; decide), if_neg (by rw [hk9]; decide), if_neg (by rw [hk9]; decide), if_neg (by rw [hk9]; decide)] at k9
      rw [me_st, if_neg (by rw [hk9]; decide), if_neg (by rw [hk9]; decide), if_neg (by rw [hk9]; decide), if_pos hk9, decide_eq_true q152] at k9
      exact k9
  · rw [hk9]
    refine s_swin (off := 155) (tgt := 166) hP t33_11 (by decide) (by decide) rfl (by decide) ?_
    refine s_aload_n hP t33_166 rfl ?_
    refine s_aload_n hP t33_167 rfl ?_
    refine s_getfield hP t33_168 rfl rfl ?_
    refine s_putfield hP t33_171 rfl rfl rfl rfl ?_
    refine s_goto hP t33_174 ?_
    refine s_aload_n hP t33_228 rfl ?_
    refine s_iload_n hP t33_229 rfl ?_
    refine s_putfield hP t33_230 rfl rfl rfl rfl ?_
    refine s_return_ hP t33_233 rfl ?_
    have k9 := k (me_st ha a1 s1 23) (me_st ha a1 s1 24) (me_st ha a1 s1 25)
    rw [mc_mv_self] at k9
    rw [me_nx, if_neg (by rw [hk9]; decide), if_neg (by rw [hk9]; decide)] at k9
    rw [me_ar, if_neg (by rw [hk9]; decide), if_neg (by rw [hk9]; decide), if_neg (by rw [hk9]; decide), if_neg (by rw [hk9]; decide)] at k9
    rw [me_st, if_neg (by rw [hk9]; decide), if_neg (by rw [hk9]; decide), if_neg (by rw [hk9]; decide), if_neg (by rw [hk9]; decide), if_pos hk9] at k9
    exact k9
  · rw [hk9]
    refine s_swin (off := 166) (tgt := 177) hP t33_11 (by decide) (by decide) rfl (by decide) ?_
    refine s_aload_n hP t33_177 rfl ?_
    refine s_aload_n hP t33_178 rfl ?_
    refine s_getfield hP t33_179 rfl rfl ?_
    refine s_aload_n hP t33_182 rfl ?_
    refine s_getfield hP t33_183 rfl rfl ?_
    refine s_aload_n hP t33_186 rfl ?_
    refine s_getfield hP t33_187 rfl rfl ?_
    refine s_iadd hP t33_190 ?_
    refine s_invokevirtual (bc' := 0) (bs' := 0) hP t33_191 rfl rfl rfl rfl rfl ?_
    refine sp36_1 (h118 (Or.inl hk9)) ?_
    refine s_goto hP t33_194 ?_
    refine s_aload_n hP t33_228 rfl ?_
    refine s_iload_n hP t33_229 rfl ?_
    refine s_putfield hP t33_230 rfl rfl rfl rfl ?_
    refine s_return_ hP t33_233 rfl ?_
    have k9 := k (me_st ha a1 s1 23) (me_st ha a1 s1 24) (me_st ha a1 s1 25)
    rw [mc_mv_self] at k9
    rw [me_nx, if_neg (by rw [hk9]; decide), if_neg (by rw [hk9]; decide)] at k9
    rw [me_ar, if_pos hk9] at k9
    rw [me_st, if_neg (by rw [hk9]; decide), if_neg (by rw [hk9]; decide), if_neg (by rw [hk9]; decide), if_neg (by rw [hk9]; decide), if_neg (by rw [hk9]; decide)] at k9
    exact k9
  · rw [hk9]
    refine s_swin (off := 186) (tgt := 197) hP t33_11 (by decide) (by decide) rfl (by decide) ?_
    refine s_aload_n hP t33_197 rfl ?_
    refine s_aload_n hP t33_198 rfl ?_
    refine s_getfield hP t33_199 rfl rfl ?_
    refine s_aload_n hP t33_202 rfl ?_
    refine s_invokevirtual (bc' := 0) (bs' := 0) hP t33_203 rfl rfl rfl rfl rfl ?_
    obtain ⟨hs1, hs2⟩ := hs hk9
    obtain ⟨hX, hY, hZ⟩ := hP9 hk9
    refine sp37_1 (S := S) (sh := sh) (R := R) hS hs1 hs2 hsh hR hX hY hZ hX9 hY9 hZ9 (fun x9 y9 z9 => ?_)
    refine s_invokevirtual (bc' := 0) (bs' := 0) hP t33_206 rfl rfl rfl rfl rfl ?_
    refine sp36_1 (s1 := mc_mv s1 x9 y9 z9) (h118 (Or.inr hk9)) ?_
    refine s_goto hP t33_209 ?_
    refine s_aload_n hP t33_228 rfl ?_
    refine s_iload_n hP t33_229 rfl ?_
    refine s_putfield hP t33_230 rfl rfl rfl rfl ?_
    refine s_return_ hP t33_233 rfl ?_
    have k9 := k x9 y9 z9
    rw [me_nx, if_neg (by rw [hk9]; decide), if_neg (by rw [hk9]; decide)] at k9
    rw [me_ar, if_neg (by rw [hk9]; decide), if_pos hk9] at k9
    rw [me_st, if_neg (by rw [hk9]; decide), if_neg (by rw [hk9]; decide), if_neg (by rw [hk9]; decide), if_neg (by rw [hk9]; decide), if_neg (by rw [hk9]; decide)] at k9
    exact k9
  · rw [hk9]
    refine s_swin (off := 201) (tgt := 212) hP t33_11 (by decide) (by decide) rfl (by decide) ?_
    refine s_aload_n hP t33_212 rfl ?_
    refine s_invokevirtual (bc' := 0) (bs' := 0) hP t33_213 rfl rfl rfl rfl rfl ?_
    refine sp38_1 hN hN9 hM hM9 hNM (fun e38 => ?_) (fun e38 => ?_)
    · refine s_istore_n_1 hP t33_216 (by exact rfl) ?_
      refine s_goto hP t33_217 ?_
      refine s_aload_n hP t33_228 rfl ?_
      refine s_iload_n hP t33_229 rfl ?_
      refine s_putfield hP t33_230 rfl rfl rfl rfl ?_
      refine s_return_ hP t33_233 rfl ?_
      have k9 := k (me_st ha a1 s1 23) (me_st ha a1 s1 24) (me_st ha a1 s1 25)
      rw [mc_mv_self] at k9
      rw [me_nx, if_pos (Or.inl hk9), if_pos e38] at k9
      rw [me_ar, if_neg (by rw [hk9]; decide), if_neg (by rw [hk9]; decide), if_pos (Or.inl hk9), if_pos e38] at k9
      rw [me_st, if_neg (by rw [hk9]; decide), if_neg (by rw [hk9]; decide), if_neg (by rw [hk9]; decide), if_neg (by rw [hk9]; decide), if_neg (by rw [hk9]; decide)] at k9
      exact k9
    · refine s_istore_n_1 hP t33_216 (by exact rfl) ?_
      refine s_goto hP t33_217 ?_
      refine s_aload_n hP t33_228 rfl ?_
      refine s_iload_n hP t33_229 rfl ?_
      refine s_putfield hP t33_230 rfl rfl rfl rfl ?_
      refine s_return_ hP t33_233 rfl ?_
      have k9 := k (me_st ha a1 s1 23) (me_st ha a1 s1 24) (me_st ha a1 s1 25)
      rw [mc_mv_self] at k9
      rw [me_nx, if_pos (Or.inl hk9), if_neg (by rw [e38]; decide)] at k9
      rw [me_ar, if_neg (by rw [hk9]; decide), if_neg (by rw [hk9]; decide), if_pos (Or.inl hk9), if_neg (by rw [e38]; decide)] at k9
      rw [me_st, if_neg (by rw [hk9]; decide), if_neg (by rw [hk9]; decide), if_neg (by rw [hk9]; decide), if_neg (by rw [hk9]; decide), if_neg (by rw [hk9]; decide)] at k9
      exact k9
  · rw [hk9]
    refine s_swin (off := 201) (tgt := 212) hP t33_11 (by decide) (by decide) rfl (by decide) ?_
    refine s_aload_n hP t33_212 rfl ?_
    refine s_invokevirtual (bc' := 0) (bs' := 0) hP t33_213 rfl rfl rfl rfl rfl ?_
    refine sp38_1 hN hN9 hM hM9 hNM (fun e38 => ?_) (fun e38 => ?_)
    · refine s_istore_n_1 hP t33_216 (by exact rfl) ?_
      refine s_goto hP t33_217 ?_
      refine s_aload_n hP t33_228 rfl ?_
      refine s_iload_n hP t33_229 rfl ?_
      refine s_putfield hP t33_230 rfl rfl rfl rfl ?_
      refine s_return_ hP t33_233 rfl ?_
      have k9 := k (me_st ha a1 s1 23) (me_st ha a1 s1 24) (me_st ha a1 s1 25)
      rw [mc_mv_self] at k9
      rw [me_nx, if_pos (Or.inr hk9), if_pos e38] at k9
      rw [me_ar, if_neg (by rw [hk9]; decide), if_neg (by rw [hk9]; decide), if_pos (Or.inr hk9), if_pos e38] at k9
      rw [me_st, if_neg (by rw [hk9]; decide), if_neg (by rw [hk9]; decide), if_neg (by rw [hk9]; decide), if_neg (by rw [hk9]; decide), if_neg (by rw [hk9]; decide)] at k9
      exact k9
    · refine s_istore_n_1 hP t33_216 (by exact rfl) ?_
      refine s_goto hP t33_217 ?_
      refine s_aload_n hP t33_228 rfl ?_
      refine s_iload_n hP t33_229 rfl ?_
      refine s_putfield hP t33_230 rfl rfl rfl rfl ?_
      refine s_return_ hP t33_233 rfl ?_
      have k9 := k (me_st ha a1 s1 23) (me_st ha a1 s1 24) (me_st ha a1 s1 25)
      rw [mc_mv_self] at k9
      rw [me_nx, if_pos (Or.inr hk9), if_neg (by rw [e38]; decide)] at k9
      rw [me_ar, if_neg (by rw [hk9]; decide), if_neg (by rw [hk9]; decide), if_pos (Or.inr hk9), if_neg (by rw [e38]; decide)] at k9
      rw [me_st, if_neg (by rw [hk9]; decide), if_neg (by rw [hk9]; decide), if_neg (by rw [hk9]; decide), if_neg (by rw [hk9]; decide), if_neg (by rw [hk9]; decide)] at k9
      exact k9
  · rw [hk9]
    refine s_swin (off := 209) (tgt := 220) hP t33_11 (by decide) (by decide) rfl (by decide) ?_
    refine s_aload_n hP t33_220 rfl ?_
    refine s_invokevirtual (bc' := 0) (bs' := 0) hP t33_221 rfl rfl rfl rfl rfl ?_
    refine sp39_1 hN hN9 hM hM9 hNM ?_
    refine s_istore_n_1 hP t33_224 (by exact rfl) ?_
    refine s_goto hP t33_225 ?_
    refine s_aload_n hP t33_228 rfl ?_
    refine s_iload_n hP t33_229 rfl ?_
    refine s_putfield hP t33_230 rfl rfl rfl rfl ?_
    refine s_return_ hP t33_233 rfl ?_
    have k9 := k (me_st ha a1 s1 23) (me_st ha a1 s1 24) (me_st ha a1 s1 25)
    rw [mc_mv_self] at k9
    rw [me_nx, if_neg (by rw [hk9]; decide), if_pos hk9] at k9
    rw [me_ar, if_neg (by rw [hk9]; decide), if_neg (by rw [hk9]; decide), if_neg (by rw [hk9]; decide), if_pos hk9] at k9
    rw [me_st, if_neg (by rw [hk9]; decide), if_neg (by rw [hk9]; decide), if_neg (by rw [hk9]; decide), if_neg (by rw [hk9]; decide), if_neg (by rw [hk9]; decide)] at k9
    exact k9
  · rw [hk9]
    refine s_swin (off := 217) (tgt := 228) hP t33_11 (by decide) (by decide) rfl (by decide) ?_
    refine s_aload_n hP t33_228 rfl ?_
    refine s_iload_n hP t33_229 rfl ?_
    refine s_putfield hP t33_230 rfl rfl rfl rfl ?_
    refine s_return_ hP t33_233 rfl ?_
    have k9 := k (me_st ha a1 s1 23) (me_st ha a1 s1 24) (me_st ha a1 s1 25)
    rw [mc_mv_self] at k9
    rw [me_nx, if_neg (by rw [hk9]; decide), if_neg (by rw [hk9]; decide)] at k9
    rw [me_ar, if_neg (by rw [hk9]; decide), if_neg (by rw [hk9]; decide), if_neg (by rw [hk9]; decide), if_neg (by rw [hk9]; decide)] at k9
    rw [me_st, if_neg (by rw [hk9]; decide), if_neg (by rw [hk9]; decide), if_neg (by rw [hk9]; decide), if_neg (by rw [hk9]; decide), if_neg (by rw [hk9]; decide)] at k9
    exact k9
set_option maxHeartbeats 2000000 in
theorem sp38_2 {d : Nat} {K : am_K} {ha : Nat → Nat → Int32} {hz : Int32} {a1 : Nat → Nat → Int32} {s1 : Nat → Int32} {t1 : UInt32} {a2 : Nat → Nat → Int32} {s2 : Nat → Int32} {t2 : UInt32} {al : Int32} {ma : Nat → Nat → Int32} {ms : Nat → Int32} {mt : UInt32} {ol : Nat → Int64} {od : Nat → UInt64} {N : Nat} (hN : s2 8 = nI N) (hN9 : N < 64) {M : Nat} (hM : hz = nI M) (hM9 : M ≤ 64) (hNM : N < M) (k1 : me_ent (s2 16) (s2 17) (s2 18) = true → K (some (.int (s2 8 + 1))) (am_W ha hz a1 s1 t1 (am_u2 a2 4 (upd (a2 4) N (s2 17))) s2 t2 al ma ms mt ol od)) (k0 : me_ent (s2 16) (s2 17) (s2 18) = false → K (some (.int (ha 9 N + 1))) (am_W ha hz a1 s1 t1 a2 s2 t2 al ma ms mt ol od)) : am_Run (d + 4) 38 [.ref 27] (am_W ha hz a1 s1 t1 a2 s2 t2 al ma ms mt ol od) K := by
  refine ⟨rfl, fun P hm hP => ?_⟩
  show P 0 [some (.ref 27), none] [] _ 0 0
  refine s_aload_n hP t38_0 rfl ?_
  refine s_getfield hP t38_1 rfl rfl ?_
  refine s_bipush (v := 114) hP t38_4 (by decide) ?_
  refine s_icmp_ne hP t38_6 (fun q6 => ?_) (fun q6 => ?_)
  · refine s_aload_n hP t38_24 rfl ?_
    refine s_getfield hP t38_25 rfl rfl ?_
    refine s_aload_n hP t38_28 rfl ?_
    refine s_getfield hP t38_29 rfl rfl ?_
    refine s_icmp_le hP t38_32 (fun q32 => ?_) (fun q32 => ?_)
    · refine s_iconst (v := 0) hP t38_39 (by decide) ?_
      refine s_istore_n_1 hP t38_40 (by exact rfl) ?_
      refine s_iload_n hP t38_41 rfl ?_
      refine s_if_ne hP t38_42 (fun q42 => ?_) (fun q42 => ?_)
      · exact absurd rfl q42
      · refine s_aload_n hP t38_45 rfl ?_
        refine s_getfield hP t38_46 rfl rfl ?_
        refine s_getfield hP t38_49 rfl rfl ?_
        refine s_aload_n hP t38_52 rfl ?_
        refine s_getfield hP t38_53 rfl rfl ?_
        refine s_invokevirtual (bc' := 0) (bs' := 0) hP t38_56 rfl rfl rfl rfl rfl ?_
        refine sp161 rfl rfl (by show vp_in (s2 8) 64; rw [hN]; exact vp_in_nI hN9 (by decide)) (by show mi_iw (s2 8) 0 (hz - 1) = true; rw [hN, hM]; exact mi_iw_blk hNM hM9) ?_
        rw [show (s2 8).toNatClampNeg = N by rw [hN]; exact nI_clamp (by omega)]
        refine s_iconst (v := 1) hP t38_59 (by decide) ?_
        refine s_iadd hP t38_60 ?_
        refine s_ireturn hP t38_61 rfl rfl ?_
        have e9 : me_ent (s2 16) (s2 17) (s2 18) = false := by rw [me_ent, if_neg q6]; exact decide_eq_false (Int32.not_lt.mpr q32)
        exact k0 e9
    · refine s_iconst (v := 1) hP t38_35 (by decide) ?_
      refine s_goto hP t38_36 ?_
      refine s_istore_n_1 hP t38_40 (by exact rfl) ?_
      refine s_iload_n hP t38_41 rfl ?_
      refine s_if_ne hP t38_42 (fun q42 => ?_) (fun q42 => ?_)
      · refine s_aload_n hP t38_62 rfl ?_
        refine s_getfield hP t38_63 rfl rfl ?_
        refine s_getfield hP t38_66 rfl rfl ?_
        refine s_aload_n hP t38_69 rfl ?_
        refine s_getfield hP t38_70 rfl rfl ?_
        refine s_invokevirtual (bc' := 0) (bs' := 0) hP t38_73 rfl rfl rfl rfl rfl ?_
        refine sp54 (sz := nI M) (by rw [← hM]; rfl) ?_
        rw [show mi_iw (s2 8) 0 (nI M - 1) = true by rw [hN]; exact mi_iw_blk hNM hM9]
        refine s_zeq hP t38_76 (fun q76 => ?_) (fun q76 => ?_)
        · cases q76
        · refine s_aload_n hP t38_79 rfl ?_
          refine s_getfield hP t38_80 rfl rfl ?_
          refine s_aload_n hP t38_83 rfl ?_
          refine s_getfield hP t38_84 rfl rfl ?_
          refine s_aload_n hP t38_87 rfl ?_
          refine s_getfield hP t38_88 rfl rfl ?_
          refine s_iastore hP t38_91 rfl (by show vp_in (s2 8) 64; rw [hN]; exact vp_in_nI hN9 (by decide)) ?_
          rw [show (s2 8).toNatClampNeg = N by rw [hN]; exact nI_clamp (by omega)]
          refine s_aload_n hP t38_92 rfl ?_
          refine s_getfield hP t38_93 rfl rfl ?_
          refine s_iconst (v := 1) hP t38_96 (by decide) ?_
          refine s_iadd hP t38_97 ?_
          refine s_ireturn hP t38_98 rfl rfl ?_
          have e9 : me_ent (s2 16) (s2 17) (s2 18) = true := by rw [me_ent, if_neg q6]; exact decide_eq_true (Int32.not_le.mp q32)
          exact k1 e9
      · exact absurd q42 (by decide)
  · refine s_aload_n hP t38_9 rfl ?_
    refine s_getfield hP t38_10 rfl rfl ?_
    refine s_if_le hP t38_13 (fun q13 => ?_) (fun q13 => ?_)
    · refine s_iconst (v := 0) hP t38_20 (by decide) ?_
      refine s_goto hP t38_21 ?_
      refine s_istore_n_1 hP t38_40 (by exact rfl) ?_
      refine s_iload_n hP t38_41 rfl ?_
      refine s_if_ne hP t38_42 (fun q42 => ?_) (fun q42 => ?_)
      · exact absurd rfl q42
      · refine s_aload_n hP t38_45 rfl ?_
        refine s_getfield hP t38_46 rfl rfl ?_
        refine s_getfield hP t38_49 rfl rfl ?_
        refine s_aload_n hP t38_52 rfl ?_
        refine s_getfield hP t38_53 rfl rfl ?_
        refine s_invokevirtual (bc' := 0) (bs' := 0) hP t38_56 rfl rfl rfl rfl rfl ?_
        refine sp161 rfl rfl (by show vp_in (s2 8) 64; rw [hN]; exact vp_in_nI hN9 (by decide)) (by show mi_iw (s2 8) 0 (hz - 1) = true; rw [hN, hM]; exact mi_iw_blk hNM hM9) ?_
        rw [show (s2 8).toNatClampNeg = N by rw [hN]; exact nI_clamp (by omega)]
        refine s_iconst (v := 1) hP t38_59 (by decide) ?_
        refine s_iadd hP t38_60 ?_
        refine s_ireturn hP t38_61 rfl rfl ?_
        have e9 : me_ent (s2 16) (s2 17) (s2 18) = false := by rw [me_ent, if_pos q6]; exact decide_eq_false (Int32.not_lt.mpr q13)
        exact k0 e9
    · refine s_iconst (v := 1) hP t38_16 (by decide) ?_
      refine s_goto hP t38_17 ?_
      refine s_istore_n_1 hP t38_40 (by exact rfl) ?_
      refine s_iload_n hP t38_41 rfl ?_
      refine s_if_ne hP t38_42 (fun q42 => ?_) (fun q42 => ?_)
      · refine s_aload_n hP t38_62 rfl ?_
        refine s_getfield hP t38_63 rfl rfl ?_
        refine s_getfield hP t38_66 rfl rfl ?_
        refine s_aload_n hP t38_69 rfl ?_
        refine s_getfield hP t38_70 rfl rfl ?_
        refine s_invokevirtual (bc' := 0) (bs' := 0) hP t38_73 rfl rfl rfl rfl rfl ?_
        refine sp54 (sz := nI M) (by rw [← hM]; rfl) ?_
        rw [show mi_iw (s2 8) 0 (nI M - 1) = true by rw [hN]; exact mi_iw_blk hNM hM9]
        refine s_zeq hP t38_76 (fun q76 => ?_) (fun q76 => ?_)
        · cases q76
        · refine s_aload_n hP t38_79 rfl ?_
          refine s_getfield hP t38_80 rfl rfl ?_
          refine s_aload_n hP t38_83 rfl ?_
          refine s_getfield hP t38_84 rfl rfl ?_
          refine s_aload_n hP t38_87 rfl ?_
          refine s_getfield hP t38_88 rfl rfl ?_
          refine s_iastore hP t38_91 rfl (by show vp_in (s2 8) 64; rw [hN]; exact vp_in_nI hN9 (by decide)) ?_
          rw [show (s2 8).toNatClampNeg = N by rw [hN]; exact nI_clamp (by omega)]
          refine s_aload_n hP t38_92 rfl ?_
          refine s_getfield hP t38_93 rfl rfl ?_
          refine s_iconst (v := 1) hP t38_96 (by decide) ?_
          refine s_iadd hP t38_97 ?_
          refine s_ireturn hP t38_98 rfl rfl ?_
          have e9 : me_ent (s2 16) (s2 17) (s2 18) = true := by rw [me_ent, if_pos q6]; exact decide_eq_true (Int32.not_le.mp q13)
          exact k1 e9
      · exact absurd q42 (by decide)
set_option maxHeartbeats 2000000 in
theorem sp39_2 {d : Nat} {K : am_K} {ha : Nat → Nat → Int32} {hz : Int32} {a1 : Nat → Nat → Int32} {s1 : Nat → Int32} {t1 : UInt32} {a2 : Nat → Nat → Int32} {s2 : Nat → Int32} {t2 : UInt32} {al : Int32} {ma : Nat → Nat → Int32} {ms : Nat → Int32} {mt : UInt32} {ol : Nat → Int64} {od : Nat → UInt64} {N : Nat} (hN : s2 8 = nI N) (hN9 : N < 64) {M : Nat} (hM : hz = nI M) (hM9 : M ≤ 64) (hNM : N < M) (k : K (some (.int (me_cn ha hz N a2 s2))) (am_W ha hz a1 s1 t1 (me_ca ha hz N a2) s2 t2 al ma ms mt ol od)) : am_Run (d + 4) 39 [.ref 27] (am_W ha hz a1 s1 t1 a2 s2 t2 al ma ms mt ol od) K := by
  refine ⟨rfl, fun P hm hP => ?_⟩
  show P 0 [some (.ref 27), none] [] _ 0 0
  refine s_aload_n hP t39_0 rfl ?_
  refine s_getfield hP t39_1 rfl rfl ?_
  refine s_getfield hP t39_4 rfl rfl ?_
  refine s_aload_n hP t39_7 rfl ?_
  refine s_getfield hP t39_8 rfl rfl ?_
  refine s_invokevirtual (bc' := 0) (bs' := 0) hP t39_11 rfl rfl rfl rfl rfl ?_
  refine sp161 rfl rfl (by show vp_in (s2 8) 64; rw [hN]; exact vp_in_nI hN9 (by decide)) (by show mi_iw (s2 8) 0 (hz - 1) = true; rw [hN, hM]; exact mi_iw_blk hNM hM9) ?_
  rw [show (s2 8).toNatClampNeg = N by rw [hN]; exact nI_clamp (by omega)]
  refine s_istore_n_1 hP t39_14 (by exact rfl) ?_
  refine s_aload_n hP t39_15 rfl ?_
  refine s_getfield hP t39_16 rfl rfl ?_
  refine s_getfield hP t39_19 rfl rfl ?_
  refine s_iload_n hP t39_22 rfl ?_
  refine s_invokevirtual (bc' := 0) (bs' := 0) hP t39_23 rfl rfl rfl rfl rfl ?_
  refine sp54 (sz := nI M) (by rw [← hM]; rfl) ?_
  refine s_zeq hP t39_26 (fun q26 => ?_) (fun q26 => ?_)
  · refine s_aload_n hP t39_46 rfl ?_
    refine s_getfield hP t39_47 rfl rfl ?_
    refine s_iconst (v := 1) hP t39_50 (by decide) ?_
    refine s_iadd hP t39_51 ?_
    refine s_ireturn hP t39_52 rfl rfl ?_
    have e9 : me_loop ha hz N = false := by rw [me_loop, (show mi_iw (ha 9 N) 0 (hz - 1) = false by rw [hM]; exact q26)]; rfl
    have ea : me_ca ha hz N a2 = a2 := by rw [me_ca, e9]; rfl
    have en : me_cn ha hz N a2 s2 = s2 8 + 1 := by rw [me_cn, if_neg (fun q => by rw [e9] at q; cases q.1)]
    rw [ea, en] at k
    exact k
  · refine s_aload_n hP t39_29 rfl ?_
    refine s_getfield hP t39_30 rfl rfl ?_
    refine s_getfield hP t39_33 rfl rfl ?_
    refine s_getfield hP t39_36 rfl rfl ?_
    refine s_iload_n hP t39_39 rfl ?_
    refine s_iaload hP t39_40 rfl (mi_iw_M hM9 q26) ?_
    refine s_bipush (v := 114) hP t39_41 (by decide) ?_
    refine s_icmp_eq hP t39_43 (fun q43 => ?_) (fun q43 => ?_)
    · refine s_aload_n hP t39_53 rfl ?_
      refine s_getfield hP t39_54 rfl rfl ?_
      refine s_iload_n hP t39_57 rfl ?_
      refine s_dup2 hP t39_58 rfl rfl ?_
      refine s_iaload hP t39_59 rfl (mi_iw_M hM9 q26) ?_
      refine s_iconst (v := 1) hP t39_60 (by decide) ?_
      refine s_isub hP t39_61 ?_
      refine s_iastore hP t39_62 rfl (mi_iw_M hM9 q26) ?_
      refine s_aload_n hP t39_63 rfl ?_
      refine s_getfield hP t39_64 rfl rfl ?_
      refine s_iload_n hP t39_67 rfl ?_
      refine s_iaload hP t39_68 rfl (mi_iw_M hM9 q26) ?_
      refine s_if_le hP t39_69 (fun q69 => ?_) (fun q69 => ?_)
      · refine s_aload_n hP t39_78 rfl ?_
        refine s_getfield hP t39_79 rfl rfl ?_
        refine s_iconst (v := 1) hP t39_82 (by decide) ?_
        refine s_iadd hP t39_83 ?_
        refine s_ireturn hP t39_84 rfl rfl ?_
        have e9 : me_loop ha hz N = true := by rw [me_loop, (show mi_iw (ha 9 N) 0 (hz - 1) = true by rw [hM]; exact q26), decide_eq_true q43]; rfl
        have q9 := q69
        rw [show upd (a2 4) (ha 9 N).toNatClampNeg _ (ha 9 N).toNatClampNeg = _ from pk_us] at q9
        have en : me_cn ha hz N a2 s2 = s2 8 + 1 := by rw [me_cn, if_neg (fun q => Int32.not_lt.mpr q9 q.2)]
        rw [me_ca, if_pos e9, en] at k
        exact k
      · refine s_iload_n hP t39_72 rfl ?_
        refine s_iconst (v := 1) hP t39_73 (by decide) ?_
        refine s_iadd hP t39_74 ?_
        refine s_goto hP t39_75 ?_
        refine s_ireturn hP t39_84 rfl rfl ?_
        have e9 : me_loop ha hz N = true := by rw [me_loop, (show mi_iw (ha 9 N) 0 (hz - 1) = true by rw [hM]; exact q26), decide_eq_true q43]; rfl
        have q9 := q69
        rw [show upd (a2 4) (ha 9 N).toNatClampNeg _ (ha 9 N).toNatClampNeg = _ from pk_us] at q9
        have en : me_cn ha hz N a2 s2 = ha 9 N + 1 := by rw [me_cn, if_pos ⟨e9, Int32.not_le.mp q9⟩]
        rw [me_ca, if_pos e9, en] at k
        exact k
    · refine s_aload_n hP t39_46 rfl ?_
      refine s_getfield hP t39_47 rfl rfl ?_
      refine s_iconst (v := 1) hP t39_50 (by decide) ?_
      refine s_iadd hP t39_51 ?_
      refine s_ireturn hP t39_52 rfl rfl ?_
      have e9 : me_loop ha hz N = false := by rw [me_loop, (show mi_iw (ha 9 N) 0 (hz - 1) = true by rw [hM]; exact q26), decide_eq_false q43]; rfl
      have ea : me_ca ha hz N a2 = a2 := by rw [me_ca, e9]; rfl
      have en : me_cn ha hz N a2 s2 = s2 8 + 1 := by rw [me_cn, if_neg (fun q => by rw [e9] at q; cases q.1)]
      rw [ea, en] at k
      exact k
set_option maxHeartbeats 4000000 in
theorem sp33_2 {d : Nat} {K : am_K} {ha : Nat → Nat → Int32} {hz : Int32} {a1 : Nat → Nat → Int32} {s1 : Nat → Int32} {t1 : UInt32} {a2 : Nat → Nat → Int32} {s2 : Nat → Int32} {t2 : UInt32} {al : Int32} {ma : Nat → Nat → Int32} {ms : Nat → Int32} {mt : UInt32} {ol : Nat → Int64} {od : Nat → UInt64} (hk : mi_kind (s2 16) = true) {N : Nat} (hN : s2 8 = nI N) (hN9 : N < 64) {M : Nat} (hM : hz = nI M) (hM9 : M ≤ 64) (hNM : N < M) {S : Nat → Bool} {sh R X Y Z : Nat} (hS : ∀ j, j < 72 → a2 0 j = mr_w (fun q => S (16 * j + q))) (hs : s2 16 = 120 → s2 21 = nI sh ∧ s2 22 = nI R) (hsh : sh = 101 ∨ sh = 98 ∨ sh = 118) (hR : R < 4) (hP9 : s2 16 = 120 → a2 3 0 = nI X ∧ a2 3 1 = nI Y ∧ a2 3 2 = nI Z) (hX9 : X < 16) (hY9 : Y < 12) (hZ9 : Z < 10) (h116 : s2 16 = 116 → ∃ A B, s2 17 = nI A ∧ s2 18 = nI B ∧ A < 3 ∧ B < 4) (h118 : s2 16 = 118 ∨ s2 16 = 120 → mi_iw (s2 17) 0 7 = true) (k : ∀ x y z : Int32, K none (am_W ha hz a1 s1 t1 (me_ar ha hz N a2 s2 (me_lev (fun l => mx_d (mx_meet S sh R X Y l)) Z)) (am_u1 (mc_mv (me_st ha a2 s2) x y z) 8 (me_nx ha hz N a2 s2)) t2 al ma ms mt ol od)) : am_Run (d + 5) 33 [.ref 27] (am_W ha hz a1 s1 t1 a2 s2 t2 al ma ms mt ol od) K := by
  refine ⟨rfl, fun P hm hP => ?_⟩
  show P 0 [some (.ref 27), none] [] _ 0 0
  refine s_aload_n hP t33_0 rfl ?_
  refine s_getfield hP t33_1 rfl rfl ?_
  refine s_iconst (v := 1) hP t33_4 (by decide) ?_
  refine s_iadd hP t33_5 ?_
  refine s_istore_n_1 hP t33_6 (by exact rfl) ?_
  refine s_aload_n hP t33_7 rfl ?_
  refine s_getfield hP t33_8 rfl rfl ?_
  rcases mi_kind_cases hk with hk9 | hk9 | hk9 | hk9 | hk9 | hk9 | hk9 | hk9 | hk9 | hk9 | hk9 | hk9 | hk9 | hk9 | hk9
  · rw [hk9]
    refine s_swin (off := 217) (tgt := 228) hP t33_11 (by decide) (by decide) rfl (by decide) ?_
    refine s_aload_n hP t33_228 rfl ?_
    refine s_iload_n hP t33_229 rfl ?_
    refine s_putfield hP t33_230 rfl rfl rfl rfl ?_
    refine s_return_ hP t33_233 rfl ?_
    have k9 := k (me_st ha a2 s2 23) (me_st ha a2 s2 24) (me_st ha a2 s2 25)
    rw [mc_mv_self] at k9
    rw [me_nx, if_neg (by rw [hk9]; decide), if_neg (by rw [hk9]; decide)] at k9
    rw [me_ar, if_neg (by rw [hk9]; decide), if_neg (by rw [hk9]; decide), if_neg (by rw [hk9]; decide), if_neg (by rw [hk9]; decide)] at k9
    rw [me_st, if_neg (by rw [hk9]; decide), if_neg (by rw [hk9]; decide), if_neg (by rw [hk9]; decide), if_neg (by rw [hk9]; decide), if_neg (by rw [hk9]; decide)] at k9
    exact k9
  · rw [hk9]
    refine s_swin (off := 217) (tgt := 228) hP t33_11 (by decide) (by decide) rfl (by decide) ?_
    refine s_aload_n hP t33_228 rfl ?_
    refine s_iload_n hP t33_229 rfl ?_
    refine s_putfield hP t33_230 rfl rfl rfl rfl ?_
    refine s_return_ hP t33_233 rfl ?_
    have k9 := k (me_st ha a2 s2 23) (me_st ha a2 s2 24) (me_st ha a2 s2 25)
    rw [mc_mv_self] at k9
    rw [me_nx, if_neg (by rw [hk9]; decide), if_neg (by rw [hk9]; decide)] at k9
    rw [me_ar, if_neg (by rw [hk9]; decide), if_neg (by rw [hk9]; decide), if_neg (by rw [hk9]; decide), if_neg (by rw [hk9]; decide)] at k9
    rw [me_st, if_neg (by rw [hk9]; decide), if_neg (by rw [hk9]; decide), if_neg (by rw [hk9]; decide), if_neg (by rw [hk9]; decide), if_neg (by rw [hk9]; decide)] at k9
    exact k9
  · rw [hk9]
    refine s_swout (tgt := 228) hP t33_11 (by decide) (by decide) ?_
    refine s_aload_n hP t33_228 rfl ?_
    refine s_iload_n hP t33_229 rfl ?_
    refine s_putfield hP t33_230 rfl rfl rfl rfl ?_
    refine s_return_ hP t33_233 rfl ?_
    have k9 := k (me_st ha a2 s2 23) (me_st ha a2 s2 24) (me_st ha a2 s2 25)
    rw [mc_mv_self] at k9
    rw [me_nx, if_neg (by rw [hk9]; decide), if_neg (by rw [hk9]; decide)] at k9
    rw [me_ar, if_neg (by rw [hk9]; decide), if_neg (by rw [hk9]; decide), if_neg (by rw [hk9]; decide), if_neg (by rw [hk9]; decide)] at k9
    rw [me_st, if_neg (by rw [hk9]; decide), if_neg (by rw [hk9]; decide), if_neg (by rw [hk9]; decide), if_neg (by rw [hk9]; decide), if_neg (by rw [hk9]; decide)] at k9
    exact k9
  · rw [hk9]
    refine s_swin (off := 217) (tgt := 228) hP t33_11 (by decide) (by decide) rfl (by decide) ?_
    refine s_aload_n hP t33_228 rfl ?_
    refine s_iload_n hP t33_229 rfl ?_
    refine s_putfield hP t33_230 rfl rfl rfl rfl ?_
    refine s_return_ hP t33_233 rfl ?_
    have k9 := k (me_st ha a2 s2 23) (me_st ha a2 s2 24) (me_st ha a2 s2 25)
    rw [mc_mv_self] at k9
    rw [me_nx, if_neg (by rw [hk9]; decide), if_neg (by rw [hk9]; decide)] at k9
    rw [me_ar, if_neg (by rw [hk9]; decide), if_neg (by rw [hk9]; decide), if_neg (by rw [hk9]; decide), if_neg (by rw [hk9]; decide)] at k9
    rw [me_st, if_neg (by rw [hk9]; decide), if_neg (by rw [hk9]; decide), if_neg (by rw [hk9]; decide), if_neg (by rw [hk9]; decide), if_neg (by rw [hk9]; decide)] at k9
    exact k9
  · rw [hk9]
    refine s_swin (off := 93) (tgt := 104) hP t33_11 (by decide) (by decide) rfl (by decide) ?_
    refine s_aload_n hP t33_104 rfl ?_
    refine s_aload_n hP t33_105 rfl ?_
    refine s_invokevirtual (bc' := 0) (bs' := 0) hP t33_106 rfl rfl rfl rfl rfl ?_
    obtain ⟨A, B, hA, hB, hA3, hB4⟩ := h116 hk9
    refine sp23_2 (A := A) (B := B) hA hB hA3 hB4 ?_
    refine s_putfield hP t33_109 rfl rfl rfl rfl ?_
    refine s_goto hP t33_112 ?_
    refine s_aload_n hP t33_228 rfl ?_
    refine s_iload_n hP t33_229 rfl ?_
    refine s_putfield hP t33_230 rfl rfl rfl rfl ?_
    refine s_return_ hP t33_233 rfl ?_
    have k9 := k (me_st ha a2 s2 23) (me_st ha a2 s2 24) (me_st ha a2 s2 25)
    rw [mc_mv_self] at k9
    rw [me_nx, if_neg (by rw [hk9]; decide), if_neg (by rw [hk9]; decide)] at k9
    rw [me_ar, if_neg (by rw [hk9]; decide), if_neg (by rw [hk9]; decide), if_neg (by rw [hk9]; decide), if_neg (by rw [hk9]; decide)] at k9
    rw [me_st, if_pos hk9, hA, hB, nI_clamp (by omega), nI_clamp (by omega)] at k9
    exact k9
  · rw [hk9]
    refine s_swin (off := 104) (tgt := 115) hP t33_11 (by decide) (by decide) rfl (by decide) ?_
    refine s_aload_n hP t33_115 rfl ?_
    refine s_aload_n hP t33_116 rfl ?_
    refine s_getfield hP t33_117 rfl rfl ?_
    refine s_iconst (v := 1) hP t33_120 (by decide) ?_
    refine s_icmp_ne hP t33_121 (fun q121 => ?_) (fun q121 => ?_)
    · refine s_iconst (v := 0) hP t33_128 (by decide) ?_
      refine s_putfield hP t33_129 rfl rfl rfl rfl ?_
      refine s_goto hP t33_132 ?_
      refine s_aload_n hP t33_228 rfl ?_
      refine s_iload_n hP t33_229 rfl ?_
      refine s_putfield hP t33_230 rfl rfl rfl rfl ?_
      refine s_return_ hP t33_233 rfl ?_
      have k9 := k (me_st ha a2 s2 23) (me_st ha a2 s2 24) (me_st ha a2 s2 25)
      rw [mc_mv_self] at k9
      rw [me_nx, if_neg (by rw [hk9]; decide), if_neg (by rw [hk9]; decide)] at k9
      rw [me_ar, if_neg (by rw [hk9]; decide), if_neg (by rw [hk9]; decide), if_neg (by rw [hk9]; decide), if_neg (by rw [hk9]; decide)] at k9
      rw [me_st, if_neg (by rw [hk9]; decide), if_pos hk9, decide_eq_false q121] at k9
      exact k9
    · refine s_iconst (v := 1) hP t33_124 (by decide) ?_
      refine s_goto hP t33_125 ?_
      refine s_putfield hP t33_129 rfl rfl rfl rfl ?_
      refine s_goto hP t33_132 ?_
      refine s_aload_n hP t33_228 rfl ?_
      refine s_iload_n hP t33_229 rfl ?_
      refine s_putfield hP t33_230 rfl rfl rfl rfl ?_
      refine s_return_ hP t33_233 rfl ?_
      have k9 := k (me_st ha a2 s2 23) (me_st ha a2 s2 24) (me_st ha a2 s2 25)
      rw [mc_mv_self] at k9
      rw [me_nx, if_neg (by rw [hk9]; decide), if_neg (by rw [hk9]; decide)] at k9
      rw [me_ar, if_neg (by rw [hk9]; decide), if_neg (by rw [hk9]; decide), if_neg (by rw [hk9]; decide), if_neg (by rw [hk9]; decide)] at k9
      rw [me_st, if_neg (by rw [hk9]; decide), if_pos hk9, decide_eq_true q121] at k9
      exact k9
  · rw [hk9]
    refine s_swin (off := 124) (tgt := 135) hP t33_11 (by decide) (by decide) rfl (by decide) ?_
    refine s_aload_n hP t33_135 rfl ?_
    refine s_aload_n hP t33_136 rfl ?_
    refine s_getfield hP t33_137 rfl rfl ?_
    refine s_putfield hP t33_140 rfl rfl rfl rfl ?_
    refine s_goto hP t33_143 ?_
    refine s_aload_n hP t33_228 rfl ?_
    refine s_iload_n hP t33_229 rfl ?_
    refine s_putfield hP t33_230 rfl rfl rfl rfl ?_
    refine s_return_ hP t33_233 rfl ?_
    have k9 := k (me_st ha a2 s2 23) (me_st ha a2 s2 24) (me_st ha a2 s2 25)
    rw [mc_mv_self] at k9
    rw [me_nx, if_neg (by rw [hk9]; decide), if_neg (by rw [hk9]; decide)] at k9
    rw [me_ar, if_neg (by rw [hk9]; decide), if_neg (by rw [hk9]; decide), if_neg (by rw [hk9]; decide), if_neg (by rw [hk9]; decide)] at k9
    rw [me_st, if_neg (by rw [hk9]; decide), if_neg (by rw [hk9]; decide), if_pos hk9] at k9
    exact k9
  · rw [hk9]
    refine s_swin (off := 135) (tgt := 146) hP t33_11 (by decide) (by decide) rfl (by decide) ?_
    refine s_aload_n hP t33_146 rfl ?_
    refine s_aload_n hP t33_147 rfl ?_
    refine s_getfield hP t33_148 rfl rfl ?_
    refine s_iconst (v := 1) hP t33_151 (by decide) ?_
    refine s_icmp_ne hP t33_152 (fun q152 => ?_) (fun q152 => ?_)
    · refine s_iconst (v := 0) hP t33_159 (by decide) ?_
      refine s_putfield hP t33_160 rfl rfl rfl rfl ?_
      refine s_goto hP t33_163 ?_
      refine s_aload_n hP t33_228 rfl ?_
      refine s_iload_n hP t33_229 rfl ?_
      refine s_putfield hP t33_230 rfl rfl rfl rfl ?_
      refine s_return_ hP t33_233 rfl ?_
      have k9 := k (me_st ha a2 s2 23) (me_st ha a2 s2 24) (me_st ha a2 s2 25)
      rw [mc_mv_self] at k9
      rw [me_nx, if_neg (by rw [hk9]; decide), if_neg (by rw [hk9]; decide)] at k9
      rw [me_ar, if_neg (by rw [hk9]; decide), if_neg (by rw [hk9]; decide), if_neg (by rw [hk9]; decide), if_neg (by rw [hk9]; decide)] at k9
      rw [me_st, if_neg (by rw [hk9]; decide), if_neg (by rw [hk9]; decide), if_neg (by rw [hk9]; decide), if_pos hk9, decide_eq_false q152] at k9
      exact k9
    · refine s_iconst (v := 1) hP t33_155 (by decide) ?_
      refine s_goto hP t33_156 ?_
      refine s_putfield hP t33_160 rfl rfl rfl rfl ?_
      refine s_goto hP t33_163 ?_
      refine s_aload_n hP t33_228 rfl ?_
      refine s_iload_n hP t33_229 rfl ?_
      refine s_putfield hP t33_230 rfl rfl rfl rfl ?_
      refine s_return_ hP t33_233 rfl ?_
      have k9 := k (me_st ha a2 s2 23) (me_st ha a2 s2 24) (me_st ha a2 s2 25)
      rw [mc_mv_self] at k9
      rw [me_nx, if_neg (by rw [hk9]; decide), if_neg (by rw [hk9]; decide)] at k9
      rw [me_ar, if_neg (by rw [hk9]; decide), if_neg (by rw [hk9]; decide), if_neg (by rw [hk9]; decide), if_neg (by rw [hk9]; decide)] at k9
      rw [me_st, if_neg (by rw [hk9]; decide), if_neg (by rw [hk9]; decide), if_neg (by rw [hk9]; decide), if_pos hk9, decide_eq_true q152] at k9
      exact k9
  · rw [hk9]
    refine s_swin (off := 155) (tgt := 166) hP t33_11 (by decide) (by decide) rfl (by decide) ?_
    refine s_aload_n hP t33_166 rfl ?_
    refine s_aload_n hP t33_167 rfl ?_
    refine s_getfield hP t33_168 rfl rfl ?_
    refine s_putfield hP t33_171 rfl rfl rfl rfl ?_
    refine s_goto hP t33_174 ?_
    refine s_aload_n hP t33_228 rfl ?_
    refine s_iload_n hP t33_229 rfl ?_
    refine s_putfield hP t33_230 rfl rfl rfl rfl ?_
    refine s_return_ hP t33_233 rfl ?_
    have k9 := k (me_st ha a2 s2 23) (me_st ha a2 s2 24) (me_st ha a2 s2 25)
    rw [mc_mv_self] at k9
    rw [me_nx, if_neg (by rw [hk9]; decide), if_neg (by rw [hk9]; decide)] at k9
    rw [me_ar, if_neg (by rw [hk9]; decide), if_neg (by rw [hk9]; decide), if_neg (by rw [hk9]; decide), if_neg (by rw [hk9]; decide)] at k9
    rw [me_st, if_neg (by rw [hk9]; decide), if_neg (by rw [hk9]; decide), if_neg (by rw [hk9]; decide), if_neg (by rw [hk9]; decide), if_pos hk9] at k9
    exact k9
  · rw [hk9]
    refine s_swin (off := 166) (tgt := 177) hP t33_11 (by decide) (by decide) rfl (by decide) ?_
    refine s_aload_n hP t33_177 rfl ?_
    refine s_aload_n hP t33_178 rfl ?_
    refine s_getfield hP t33_179 rfl rfl ?_
    refine s_aload_n hP t33_182 rfl ?_
    refine s_getfield hP t33_183 rfl rfl ?_
    refine s_aload_n hP t33_186 rfl ?_
    refine s_getfield hP t33_187 rfl rfl ?_
    refine s_iadd hP t33_190 ?_
    refine s_invokevirtual (bc' := 0) (bs' := 0) hP t33_191 rfl rfl rfl rfl rfl ?_
    refine sp36_2 (h118 (Or.inl hk9)) ?_
    refine s_goto hP t33_194 ?_
    refine s_aload_n hP t33_228 rfl ?_
    refine s_iload_n hP t33_229 rfl ?_
    refine s_putfield hP t33_230 rfl rfl rfl rfl ?_
    refine s_return_ hP t33_233 rfl ?_
    have k9 := k (me_st ha a2 s2 23) (me_st ha a2 s2 24) (me_st ha a2 s2 25)
    rw [mc_mv_self] at k9
    rw [me_nx, if_neg (by rw [hk9]; decide), if_neg (by rw [hk9]; decide)] at k9
    rw [me_ar, if_pos hk9] at k9
    rw [me_st, if_neg (by rw [hk9]; decide), if_neg (by rw [hk9]; decide), if_neg (by rw [hk9]; decide), if_neg (by rw [hk9]; decide), if_neg (by rw [hk9]; decide)] at k9
    exact k9
  · rw [hk9]
    refine s_swin (off := 186) (tgt := 197) hP t33_11 (by decide) (by decide) rfl (by decide) ?_
    refine s_aload_n hP t33_197 rfl ?_
    refine s_aload_n hP t33_198 rfl ?_
    refine s_getfield hP t33_199 rfl rfl ?_
    refine s_aload_n hP t33_202 rfl ?_
    refine s_invokevirtual (bc' := 0) (bs' := 0) hP t33_203 rfl rfl rfl rfl rfl ?_
    obtain ⟨hs1, hs2⟩ := hs hk9
    obtain ⟨hX, hY, hZ⟩ := hP9 hk9
    refine sp37_2 (S := S) (sh := sh) (R := R) hS hs1 hs2 hsh hR hX hY hZ hX9 hY9 hZ9 (fun x9 y9 z9 => ?_)
    refine s_invokevirtual (bc' := 0) (bs' := 0) hP t33_206 rfl rfl rfl rfl rfl ?_
    refine sp36_2 (s2 := mc_mv s2 x9 y9 z9) (h118 (Or.inr hk9)) ?_
    refine s_goto hP t33_209 ?_
    refine s_aload_n hP t33_228 rfl ?_
    refine s_iload_n hP t33_229 rfl ?_
    refine s_putfield hP t33_230 rfl rfl rfl rfl ?_
    refine s_return_ hP t33_233 rfl ?_
    have k9 := k x9 y9 z9
    rw [me_nx, if_neg (by rw [hk9]; decide), if_neg (by rw [hk9]; decide)] at k9
    rw [me_ar, if_neg (by rw [hk9]; decide), if_pos hk9] at k9
    rw [me_st, if_neg (by rw [hk9]; decide), if_neg (by rw [hk9]; decide), if_neg (by rw [hk9]; decide), if_neg (by rw [hk9]; decide), if_neg (by rw [hk9]; decide)] at k9
    exact k9
  · rw [hk9]
    refine s_swin (off := 201) (tgt := 212) hP t33_11 (by decide) (by decide) rfl (by decide) ?_
    refine s_aload_n hP t33_212 rfl ?_
    refine s_invokevirtual (bc' := 0) (bs' := 0) hP t33_213 rfl rfl rfl rfl rfl ?_
    refine sp38_2 hN hN9 hM hM9 hNM (fun e38 => ?_) (fun e38 => ?_)
    · refine s_istore_n_1 hP t33_216 (by exact rfl) ?_
      refine s_goto hP t33_217 ?_
      refine s_aload_n hP t33_228 rfl ?_
      refine s_iload_n hP t33_229 rfl ?_
      refine s_putfield hP t33_230 rfl rfl rfl rfl ?_
      refine s_return_ hP t33_233 rfl ?_
      have k9 := k (me_st ha a2 s2 23) (me_st ha a2 s2 24) (me_st ha a2 s2 25)
      rw [mc_mv_self] at k9
      rw [me_nx, if_pos (Or.inl hk9), if_pos e38] at k9
      rw [me_ar, if_neg (by rw [hk9]; decide), if_neg (by rw [hk9]; decide), if_pos (Or.inl hk9), if_pos e38] at k9
      rw [me_st, if_neg (by rw [hk9]; decide), if_neg (by rw [hk9]; decide), if_neg (by rw [hk9]; decide), if_neg (by rw [hk9]; decide), if_neg (by rw [hk9]; decide)] at k9
      exact k9
    · refine s_istore_n_1 hP t33_216 (by exact rfl) ?_
      refine s_goto hP t33_217 ?_
      refine s_aload_n hP t33_228 rfl ?_
      refine s_iload_n hP t33_229 rfl ?_
      refine s_putfield hP t33_230 rfl rfl rfl rfl ?_
      refine s_return_ hP t33_233 rfl ?_
      have k9 := k (me_st ha a2 s2 23) (me_st ha a2 s2 24) (me_st ha a2 s2 25)
      rw [mc_mv_self] at k9
      rw [me_nx, if_pos (Or.inl hk9), if_neg (by rw [e38]; decide)] at k9
      rw [me_ar, if_neg (by rw [hk9]; decide), if_neg (by rw [hk9]; decide), if_pos (Or.inl hk9), if_neg (by rw [e38]; decide)] at k9
      rw [me_st, if_neg (by rw [hk9]; decide), if_neg (by rw [hk9]; decide), if_neg (by rw [hk9]; decide), if_neg (by rw [hk9]; decide), if_neg (by rw [hk9]; decide)] at k9
      exact k9
  · rw [hk9]
    refine s_swin (off := 201) (tgt := 212) hP t33_11 (by decide) (by decide) rfl (by decide) ?_
    refine s_aload_n hP t33_212 rfl ?_
    refine s_invokevirtual (bc' := 0) (bs' := 0) hP t33_213 rfl rfl rfl rfl rfl ?_
    refine sp38_2 hN hN9 hM hM9 hNM (fun e38 => ?_) (fun e38 => ?_)
    · refine s_istore_n_1 hP t33_216 (by exact rfl) ?_
      refine s_goto hP t33_217 ?_
      refine s_aload_n hP t33_228 rfl ?_
      refine s_iload_n hP t33_229 rfl ?_
      refine s_putfield hP t33_230 rfl rfl rfl rfl ?_
      refine s_return_ hP t33_233 rfl ?_
      have k9 := k (me_st ha a2 s2 23) (me_st ha a2 s2 24) (me_st ha a2 s2 25)
      rw [mc_mv_self] at k9
      rw [me_nx, if_pos (Or.inr hk9), if_pos e38] at k9
      rw [me_ar, if_neg (by rw [hk9]; decide), if_neg (by rw [hk9]; decide), if_pos (Or.inr hk9), if_pos e38] at k9
      rw [me_st, if_neg (by rw [hk9]; decide), if_neg (by rw [hk9]; decide), if_neg (by rw [hk9]; decide), if_neg (by rw [hk9]; decide), if_neg (by rw [hk9]; decide)] at k9
      exact k9
    · refine s_istore_n_1 hP t33_216 (by exact rfl) ?_
      refine s_goto hP t33_217 ?_
      refine s_aload_n hP t33_228 rfl ?_
      refine s_iload_n hP t33_229 rfl ?_
      refine s_putfield hP t33_230 rfl rfl rfl rfl ?_
      refine s_return_ hP t33_233 rfl ?_
      have k9 := k (me_st ha a2 s2 23) (me_st ha a2 s2 24) (me_st ha a2 s2 25)
      rw [mc_mv_self] at k9
      rw [me_nx, if_pos (Or.inr hk9), if_neg (by rw [e38]; decide)] at k9
      rw [me_ar, if_neg (by rw [hk9]; decide), if_neg (by rw [hk9]; decide), if_pos (Or.inr hk9), if_neg (by rw [e38]; decide)] at k9
      rw [me_st, if_neg (by rw [hk9]; decide), if_neg (by rw [hk9]; decide), if_neg (by rw [hk9]; decide), if_neg (by rw [hk9]; decide), if_neg (by rw [hk9]; decide)] at k9
      exact k9
  · rw [hk9]
    refine s_swin (off := 209) (tgt := 220) hP t33_11 (by decide) (by decide) rfl (by decide) ?_
    refine s_aload_n hP t33_220 rfl ?_
    refine s_invokevirtual (bc' := 0) (bs' := 0) hP t33_221 rfl rfl rfl rfl rfl ?_
    refine sp39_2 hN hN9 hM hM9 hNM ?_
    refine s_istore_n_1 hP t33_224 (by exact rfl) ?_
    refine s_goto hP t33_225 ?_
    refine s_aload_n hP t33_228 rfl ?_
    refine s_iload_n hP t33_229 rfl ?_
    refine s_putfield hP t33_230 rfl rfl rfl rfl ?_
    refine s_return_ hP t33_233 rfl ?_
    have k9 := k (me_st ha a2 s2 23) (me_st ha a2 s2 24) (me_st ha a2 s2 25)
    rw [mc_mv_self] at k9
    rw [me_nx, if_neg (by rw [hk9]; decide), if_pos hk9] at k9
    rw [me_ar, if_neg (by rw [hk9]; decide), if_neg (by rw [hk9]; decide), if_neg (by rw [hk9]; decide), if_pos hk9] at k9
    rw [me_st, if_neg (by rw [hk9]; decide), if_neg (by rw [hk9]; decide), if_neg (by rw [hk9]; decide), if_neg (by rw [hk9]; decide), if_neg (by rw [hk9]; decide)] at k9
    exact k9
  · rw [hk9]
    refine s_swin (off := 217) (tgt := 228) hP t33_11 (by decide) (by decide) rfl (by decide) ?_
    refine s_aload_n hP t33_228 rfl ?_
    refine s_iload_n hP t33_229 rfl ?_
    refine s_putfield hP t33_230 rfl rfl rfl rfl ?_
    refine s_return_ hP t33_233 rfl ?_
    have k9 := k (me_st ha a2 s2 23) (me_st ha a2 s2 24) (me_st ha a2 s2 25)
    rw [mc_mv_self] at k9
    rw [me_nx, if_neg (by rw [hk9]; decide), if_neg (by rw [hk9]; decide)] at k9
    rw [me_ar, if_neg (by rw [hk9]; decide), if_neg (by rw [hk9]; decide), if_neg (by rw [hk9]; decide), if_neg (by rw [hk9]; decide)] at k9
    rw [me_st, if_neg (by rw [hk9]; decide), if_neg (by rw [hk9]; decide), if_neg (by rw [hk9]; decide), if_neg (by rw [hk9]; decide), if_neg (by rw [hk9]; decide)] at k9
    exact k9
theorem me_st_eq {ha a b : Nat → Nat → Int32} {s q : Nat → Int32} (h1 : a 1 = b 1) (h : ∀ j, j ≤ 19 → s j = q j) : ∀ j, j ≤ 19 → me_st ha a s j = me_st ha b q j := by
  intro j hj
  simp only [me_st, h 16 (by omega), h 17 (by omega), h 18 (by omega), h1]
  split
  · simp only [am_u1, h j hj]
  · split
    · simp only [am_u1, h j hj]
    · split
      · simp only [am_u1, h j hj]
      · split
        · simp only [am_u1, h j hj]
        · split
          · simp only [am_u1, h j hj]
          · exact h j hj
theorem me_nx_eq {ha : Nat → Nat → Int32} {hz : Int32} {N : Nat} {a b : Nat → Nat → Int32} {s q : Nat → Int32} (h4 : a 4 = b 4) (h : ∀ j, j ≤ 19 → s j = q j) : me_nx ha hz N a s = me_nx ha hz N b q := by
  simp only [me_nx, me_cn, h4, h 16 (by omega), h 17 (by omega), h 18 (by omega), h 8 (by omega)]
theorem me_ar_eq {ha : Nat → Nat → Int32} {hz : Int32} {N lv : Nat} {a b : Nat → Nat → Int32} {s q : Nat → Int32} (hab : ∀ i, 1 ≤ i → i ≤ 4 → a i = b i) (h : ∀ j, j ≤ 19 → s j = q j) : ∀ i, 1 ≤ i → i ≤ 4 → me_ar ha hz N a s lv i = me_ar ha hz N b q lv i := by
  intro i h1 h2
  have e4 := hab 4 (by omega) (by omega)
  have e2 := hab 2 (by omega) (by omega)
  simp only [me_ar, me_ca, h 16 (by omega), h 17 (by omega), h 18 (by omega), h 19 (by omega), e4, e2]
  split
  · simp only [am_u2, hab i h1 h2]
  · split
    · simp only [am_u2, hab i h1 h2]
    · split
      · split
        · simp only [am_u2, hab i h1 h2]
        · exact hab i h1 h2
      · split
        · split
          · simp only [am_u2, hab i h1 h2]
          · exact hab i h1 h2
        · exact hab i h1 h2
theorem me_ar_0 {ha : Nat → Nat → Int32} {hz : Int32} {N lv : Nat} {a : Nat → Nat → Int32} {s : Nat → Int32} : me_ar ha hz N a s lv 0 = a 0 := by
  simp only [me_ar, me_ca]
  split
  · rfl
  · split
    · rfl
    · split
      · split <;> rfl
      · split
        · split <;> rfl
        · rfl
