/-! THE MODEL: what it answers when it is asked. (rows by gen/sp23.py) -/
theorem mi_val_lo {V : Nat → Int32} {x : Int32} (h : mi_term x = true) (h1 : x < 100) : mc_val V x = x := by
  rw [mc_val, if_neg]
  simp only [mi_term, mi_iw, Bool.or_eq_true, Bool.and_eq_true, decide_eq_true_eq] at h ⊢
  rcases h with h | h
  · have h2 := Int32.le_iff_toInt_le.mp h.1
    have h3 := Int32.le_iff_toInt_le.mp h.2
    intro q
    have h4 := Int32.le_iff_toInt_le.mp q.1
    have e : (x - 100).toInt = x.toInt - 100 := Jvm.Kit.i32_sub (by rw [show (-50 : Int32).toInt = -50 from rfl] at h2; rw [show (100 : Int32).toInt = 100 from rfl]; omega) (by rw [show (50 : Int32).toInt = 50 from rfl] at h3; rw [show (100 : Int32).toInt = 100 from rfl]; omega)
    rw [e] at h4
    rw [show (50 : Int32).toInt = 50 from rfl] at h3
    rw [show (0 : Int32).toInt = 0 from rfl] at h4
    omega
  · exact absurd h.1 (Int32.not_le.mpr h1)
theorem mi_val_hi {x : Int32} (h : mi_term x = true) (h1 : ¬ x < 100) : mi_iw (x - 100) 0 7 = true := by
  simp only [mi_term, mi_iw, Bool.or_eq_true, Bool.and_eq_true, decide_eq_true_eq] at h ⊢
  rcases h with h | h
  · exact absurd (Int32.lt_of_le_of_lt h.2 (by decide)) h1
  · have h2 := Int32.le_iff_toInt_le.mp h.1
    have h3 := Int32.le_iff_toInt_le.mp h.2
    rw [show (100 : Int32).toInt = 100 from rfl] at h2
    rw [show (107 : Int32).toInt = 107 from rfl] at h3
    have e : (x - 100).toInt = x.toInt - 100 := Jvm.Kit.i32_sub (by rw [show (100 : Int32).toInt = 100 from rfl]; omega) (by rw [show (100 : Int32).toInt = 100 from rfl]; omega)
    refine ⟨Int32.le_iff_toInt_le.mpr ?_, Int32.le_iff_toInt_le.mpr ?_⟩
    · rw [e, show (0 : Int32).toInt = 0 from rfl]; omega
    · rw [e, show (7 : Int32).toInt = 7 from rfl]; omega
set_option maxHeartbeats 1000000 in
theorem sp125 {d : Nat} {K : am_K} {ha : Nat → Nat → Int32} {hz : Int32} {a1 : Nat → Nat → Int32} {s1 : Nat → Int32} {t1 : UInt32} {a2 : Nat → Nat → Int32} {s2 : Nat → Int32} {t2 : UInt32} {al : Int32} {ma : Nat → Nat → Int32} {ms : Nat → Int32} {mt : UInt32} {ol : Nat → Int64} {od : Nat → UInt64} {c : Nat} (hc : c < 12) (k : K (some (.int (am_b (decide (ma 3 c ≤ ma 4 c))))) (am_W ha hz a1 s1 t1 a2 s2 t2 al ma ms mt ol od)) : am_Run (d + 1) 125 [.ref 39, .int (nI c)] (am_W ha hz a1 s1 t1 a2 s2 t2 al ma ms mt ol od) K := by
  refine ⟨rfl, fun P hm hP => ?_⟩
  show P 0 [some (.ref 39), some (.int (nI c))] [] _ 0 0
  refine s_aload_n hP t125_0 rfl ?_
  refine s_getfield hP t125_1 rfl rfl ?_
  refine s_iload_n hP t125_4 rfl ?_
  refine s_iaload hP t125_5 rfl (vp_in_nI hc (by decide)) ?_
  rw [nI_clamp (by omega)]
  refine s_aload_n hP t125_6 rfl ?_
  refine s_getfield hP t125_7 rfl rfl ?_
  refine s_iload_n hP t125_10 rfl ?_
  refine s_iaload hP t125_11 rfl (vp_in_nI hc (by decide)) ?_
  rw [nI_clamp (by omega)]
  refine s_icmp_lt hP t125_12 (fun q12 => ?_) (fun q12 => ?_)
  · refine s_iconst (v := 0) hP t125_19 (by decide) ?_
    refine s_ireturn hP t125_20 rfl rfl ?_
    rw [show decide (ma 3 c ≤ ma 4 c) = false from decide_eq_false (Int32.not_le.mpr q12)] at k
    exact k
  · refine s_iconst (v := 1) hP t125_15 (by decide) ?_
    refine s_goto hP t125_16 ?_
    refine s_ireturn hP t125_20 rfl rfl ?_
    rw [show decide (ma 3 c ≤ ma 4 c) = true from decide_eq_true (Int32.not_lt.mp q12)] at k
    exact k
set_option maxHeartbeats 1000000 in
theorem sp132 {d : Nat} {K : am_K} {ha : Nat → Nat → Int32} {hz : Int32} {a1 : Nat → Nat → Int32} {s1 : Nat → Int32} {t1 : UInt32} {a2 : Nat → Nat → Int32} {s2 : Nat → Int32} {t2 : UInt32} {al : Int32} {ma : Nat → Nat → Int32} {ms : Nat → Int32} {mt : UInt32} {ol : Nat → Int64} {od : Nat → UInt64} {x : Int32} (ht : mi_term x = true) (k : K (some (.int (mc_val (ma 9) x))) (am_W ha hz a1 s1 t1 a2 s2 t2 al ma ms mt ol od)) : am_Run (d + 1) 132 [.ref 39, .int x] (am_W ha hz a1 s1 t1 a2 s2 t2 al ma ms mt ol od) K := by
  refine ⟨rfl, fun P hm hP => ?_⟩
  show P 0 [some (.ref 39), some (.int x)] [] _ 0 0
  refine s_iload_n hP t132_0 rfl ?_
  refine s_bipush (v := 100) hP t132_1 (by decide) ?_
  refine s_icmp_lt hP t132_3 (fun q3 => ?_) (fun q3 => ?_)
  · refine s_iload_n hP t132_18 rfl ?_
    refine s_ireturn hP t132_19 rfl rfl ?_
    rw [mi_val_lo ht q3] at k
    exact k
  · refine s_aload_n hP t132_6 rfl ?_
    refine s_getfield hP t132_7 rfl rfl ?_
    refine s_iload_n hP t132_10 rfl ?_
    refine s_bipush (v := 100) hP t132_11 (by decide) ?_
    refine s_isub hP t132_13 ?_
    refine s_iaload hP t132_14 rfl (mi_iw_in (N := 7) rfl (by decide) (mi_val_hi ht q3)) ?_
    refine s_goto hP t132_15 ?_
    refine s_ireturn hP t132_19 rfl rfl ?_
    rw [mc_val, if_pos (mi_val_hi ht q3)] at k
    exact k
set_option maxHeartbeats 1000000 in
theorem sp113 {d : Nat} {K : am_K} {ha : Nat → Nat → Int32} {hz : Int32} {a1 : Nat → Nat → Int32} {s1 : Nat → Int32} {t1 : UInt32} {a2 : Nat → Nat → Int32} {s2 : Nat → Int32} {t2 : UInt32} {al : Int32} {ma : Nat → Nat → Int32} {ms : Nat → Int32} {mt : UInt32} {ol : Nat → Int64} {od : Nat → UInt64} {n : Nat} (hn : ms 16 = nI n) (hn9 : n ≤ 64) (k : ∀ v : Bool, (v = true ↔ mw_W (ma 1) n) → K (some (.int (am_b v))) (am_W ha hz a1 s1 t1 a2 s2 t2 al ma (am_u1 ms 15 0) mt ol od)) : am_Run (d + 3) 113 [.ref 39] (am_W ha hz a1 s1 t1 a2 s2 t2 al ma ms mt ol od) K := by
  refine ⟨rfl, fun P hm hP => ?_⟩
  show P 0 [some (.ref 39)] [] _ 0 0
  refine s_aload_n hP t113_0 rfl ?_
  refine s_iconst (v := 0) hP t113_1 (by decide) ?_
  refine s_putfield hP t113_2 rfl rfl rfl rfl ?_
  refine s_aload_n hP t113_5 rfl ?_
  refine s_invokevirtual (bc' := 0) (bs' := 0) hP t113_6 rfl rfl rfl rfl rfl ?_
  refine sp112 (ms := am_u1 ms 15 0) hn hn9 (fun v hv => ?_)
  refine s_ireturn hP t113_9 rfl (am_nar_b _) ?_
  exact k v hv
set_option maxHeartbeats 1000000 in
theorem sp146 {d : Nat} {K : am_K} {ha : Nat → Nat → Int32} {hz : Int32} {a1 : Nat → Nat → Int32} {s1 : Nat → Int32} {t1 : UInt32} {a2 : Nat → Nat → Int32} {s2 : Nat → Int32} {t2 : UInt32} {al : Int32} {ma : Nat → Nat → Int32} {ms : Nat → Int32} {mt : UInt32} {ol : Nat → Int64} {od : Nat → UInt64} {S : Nat → Bool} (hS : ∀ q, q < 1152 → ma 14 q = am_b (!S q)) (k : K (some (.int (nI (mr_cnt 1152 S)))) (am_W ha hz a1 s1 t1 a2 s2 t2 al ma ms mt ol od)) : am_Run (d + 1) 146 [.ref 39] (am_W ha hz a1 s1 t1 a2 s2 t2 al ma ms mt ol od) K := by
  refine ⟨rfl, fun P hm hP => ?_⟩
  show P 0 [some (.ref 39), none, none] [] _ 0 0
  have loop : ∀ (n i : Nat), i ≤ 1152 → 1152 + 1 ≤ i + n → P 4 [some (.ref 39), some (.int (nI (mr_cnt i S))), some (.int (nI i))] [] (am_W ha hz a1 s1 t1 a2 s2 t2 al ma ms mt ol od) 0 0 := by
    intro n
    induction n with
    | zero => intro i h3 h4; omega
    | succ n ih =>
      intro i h3 h4
      refine s_iload_n hP t146_4 rfl ?_
      refine s_sipush (v := 1152) hP t146_5 (by decide) ?_
      refine s_icmp_ge hP t146_8 (fun q8 => ?_) (fun q8 => ?_)
      · have e9 : 1152 ≤ i := mi_leN (by decide) (by omega) q8
        refine s_iload_n hP t146_34 rfl ?_
        refine s_ireturn hP t146_35 rfl rfl ?_
        obtain rfl : i = 1152 := by omega
        exact k
      · have e9 : i < 1152 := mi_nleN (a := 1152) (by decide) (by omega) q8
        refine s_iload_n hP t146_11 rfl ?_
        refine s_aload_n hP t146_12 rfl ?_
        refine s_getfield hP t146_13 rfl rfl ?_
        refine s_iload_n hP t146_16 rfl ?_
        refine s_baload hP t146_17 rfl (vp_in_nI e9 (by decide)) ?_
        rw [nI_clamp (by omega), hS i e9]
        refine s_zeq hP t146_18 (fun q18 => ?_) (fun q18 => ?_)
        · have e18 : S i = true := mt_nt q18
          refine s_iconst (v := 1) hP t146_25 (by decide) ?_
          refine s_iadd hP t146_26 ?_
          refine s_istore_n_1 hP t146_27 (by exact rfl) ?_
          rw [show nI (mr_cnt i S) + 1 = nI (mr_cnt (i + 1) S) by rw [nI_1, mr_cnt, e18]; rfl]
          refine s_iinc_2 (v := 1) hP t146_28 (by decide) (by exact rfl) ?_
          refine s_goto hP t146_31 ?_
          rw [nI_1]
          exact ih (i + 1) (by omega) (by omega)
        · have e18 : S i = false := mt_nf q18
          refine s_iconst (v := 0) hP t146_21 (by decide) ?_
          refine s_goto hP t146_22 ?_
          refine s_iadd hP t146_26 ?_
          refine s_istore_n_1 hP t146_27 (by exact rfl) ?_
          rw [show nI (mr_cnt i S) + 0 = nI (mr_cnt (i + 1) S) by rw [show nI (mr_cnt i S) + 0 = nI (mr_cnt i S) from nI_add _ 0, mr_cnt, e18]; rfl]
          refine s_iinc_2 (v := 1) hP t146_28 (by decide) (by exact rfl) ?_
          refine s_goto hP t146_31 ?_
          rw [nI_1]
          exact ih (i + 1) (by omega) (by omega)
  refine s_iconst (v := 0) hP t146_0 (by decide) ?_
  refine s_istore_n_1 hP t146_1 (by exact rfl) ?_
  refine s_iconst (v := 0) hP t146_2 (by decide) ?_
  refine s_istore_n_2 hP t146_3 (by exact rfl) ?_
  exact loop 1153 0 (by omega) (by omega)
set_option maxHeartbeats 1000000 in
theorem sp147 {d : Nat} {K : am_K} {ha : Nat → Nat → Int32} {hz : Int32} {a1 : Nat → Nat → Int32} {s1 : Nat → Int32} {t1 : UInt32} {a2 : Nat → Nat → Int32} {s2 : Nat → Int32} {t2 : UInt32} {al : Int32} {ma : Nat → Nat → Int32} {ms : Nat → Int32} {mt : UInt32} {ol : Nat → Int64} {od : Nat → UInt64} {S : Nat → Bool} (hS : ∀ q, q < 1152 → ma 14 q = am_b (!S q)) (k : K (some (.int (nI (mr_cnt 1152 S)))) (am_W ha hz a1 s1 t1 a2 s2 t2 al ma (am_u1 ms 15 0) mt ol od)) : am_Run (d + 2) 147 [.ref 39] (am_W ha hz a1 s1 t1 a2 s2 t2 al ma ms mt ol od) K := by
  refine ⟨rfl, fun P hm hP => ?_⟩
  show P 0 [some (.ref 39)] [] _ 0 0
  refine s_aload_n hP t147_0 rfl ?_
  refine s_aload_n hP t147_1 rfl ?_
  refine s_invokevirtual (bc' := 0) (bs' := 0) hP t147_2 rfl rfl rfl rfl rfl ?_
  refine sp146 hS ?_
  refine s_invokevirtual (bc' := 0) (bs' := 0) hP t147_5 rfl rfl rfl rfl rfl ?_
  refine sp98 ?_
  refine s_ireturn hP t147_8 rfl rfl ?_
  exact k
set_option maxHeartbeats 2000000 in
theorem sp149 {d : Nat} {K : am_K} {ha : Nat → Nat → Int32} {hz : Int32} {a1 : Nat → Nat → Int32} {s1 : Nat → Int32} {t1 : UInt32} {a2 : Nat → Nat → Int32} {s2 : Nat → Int32} {t2 : UInt32} {al : Int32} {ma : Nat → Nat → Int32} {ms : Nat → Int32} {mt : UInt32} {ol : Nat → Int64} {od : Nat → UInt64} {S : Nat → Bool} (hS : ∀ q, q < 1152 → ma 14 q = am_b (!S q)) (k : K (some (.long (mr_sumL 1152 S))) (am_W ha hz a1 s1 t1 a2 s2 t2 al ma (am_u1 ms 15 0) mt ol od)) : am_Run (d + 1) 149 [.ref 39] (am_W ha hz a1 s1 t1 a2 s2 t2 al ma ms mt ol od) K := by
  refine ⟨rfl, fun P hm hP => ?_⟩
  show P 0 [some (.ref 39), none, none, none] [] _ 0 0
  have loop : ∀ (n i : Nat), i ≤ 1152 → 1152 + 1 ≤ i + n → P 4 [some (.ref 39), some (.long (mr_sumL i S)), none, some (.int (nI i))] [] (am_W ha hz a1 s1 t1 a2 s2 t2 al ma ms mt ol od) 0 0 := by
    intro n
    induction n with
    | zero => intro i h3 h4; omega
    | succ n ih =>
      intro i h3 h4
      refine s_iload_n hP t149_4 rfl ?_
      refine s_sipush (v := 1152) hP t149_5 (by decide) ?_
      refine s_icmp_ge hP t149_8 (fun q8 => ?_) (fun q8 => ?_)
      · have e9 : 1152 ≤ i := mi_leN (by decide) (by omega) q8
        refine s_aload_n hP t149_42 rfl ?_
        refine s_iconst (v := 0) hP t149_43 (by decide) ?_
        refine s_putfield hP t149_44 rfl rfl rfl rfl ?_
        refine s_lload_n hP t149_47 rfl ?_
        refine s_lreturn hP t149_48 rfl ?_
        obtain rfl : i = 1152 := by omega
        exact k
      · have e9 : i < 1152 := mi_nleN (a := 1152) (by decide) (by omega) q8
        refine s_lload_n hP t149_11 rfl ?_
        refine s_aload_n hP t149_12 rfl ?_
        refine s_getfield hP t149_13 rfl rfl ?_
        refine s_iload_n hP t149_16 rfl ?_
        refine s_baload hP t149_17 rfl (vp_in_nI e9 (by decide)) ?_
        rw [nI_clamp (by omega), hS i e9]
        refine s_zeq hP t149_18 (fun q18 => ?_) (fun q18 => ?_)
        · have e18 : S i = true := mt_nt q18
          refine s_iload_n hP t149_25 rfl ?_
          refine s_i2l hP t149_26 ?_
          rw [nI_l (by omega)]
          refine s_lconst (v := 1) hP t149_27 (by decide) ?_
          refine s_ladd hP t149_28 ?_
          refine s_iload_n hP t149_29 rfl ?_
          refine s_i2l hP t149_30 ?_
          rw [nI_l (by omega)]
          refine s_lconst (v := 1) hP t149_31 (by decide) ?_
          refine s_ladd hP t149_32 ?_
          refine s_lmul hP t149_33 ?_
          refine s_ladd hP t149_34 ?_
          rw [show mr_sumL i S + (lN i + 1) * (lN i + 1) = mr_sumL (i + 1) S by rw [lN_1, lN_mul, mr_sumL, e18]; rfl]
          refine s_lstore_n_1 hP t149_35 (by exact rfl) ?_
          refine s_iinc_3 (v := 1) hP t149_36 (by decide) (by exact rfl) ?_
          refine s_goto hP t149_39 ?_
          rw [nI_1]
          exact ih (i + 1) (by omega) (by omega)
        · have e18 : S i = false := mt_nf q18
          refine s_lconst (v := 0) hP t149_21 (by decide) ?_
          refine s_goto hP t149_22 ?_
          refine s_ladd hP t149_34 ?_
          rw [show mr_sumL i S + 0 = mr_sumL (i + 1) S by rw [mr_sumL, e18]; rfl]
          refine s_lstore_n_1 hP t149_35 (by exact rfl) ?_
          refine s_iinc_3 (v := 1) hP t149_36 (by decide) (by exact rfl) ?_
          refine s_goto hP t149_39 ?_
          rw [nI_1]
          exact ih (i + 1) (by omega) (by omega)
  refine s_lconst (v := 0) hP t149_0 (by decide) ?_
  refine s_lstore_n_1 hP t149_1 (by exact rfl) ?_
  refine s_iconst (v := 0) hP t149_2 (by decide) ?_
  refine s_istore_n_3 hP t149_3 (by exact rfl) ?_
  exact loop 1153 0 (by omega) (by omega)
set_option maxHeartbeats 2000000 in
theorem sp144 {d : Nat} {K : am_K} {ha : Nat → Nat → Int32} {hz : Int32} {a1 : Nat → Nat → Int32} {s1 : Nat → Int32} {t1 : UInt32} {a2 : Nat → Nat → Int32} {s2 : Nat → Int32} {t2 : UInt32} {al : Int32} {ma : Nat → Nat → Int32} {ms : Nat → Int32} {mt : UInt32} {ol : Nat → Int64} {od : Nat → UInt64} {S : Nat → Bool} (hS : ∀ q, q < 1152 → ma 14 q = am_b (!S q)) {x y z : Int32} (kin : ∀ X Y Z, X < 16 → Y < 12 → Z < 6 → x = nI X → y = nI Y → z = nI Z → K (some (.int (am_b (S (X + 16 * Y + 192 * Z))))) (am_W ha hz a1 s1 t1 a2 s2 t2 al ma (am_u1 ms 15 0) mt ol od)) (kout : mi_cell x y z = false → K (some (.int 0)) (am_W ha hz a1 s1 t1 a2 s2 t2 al ma (am_u1 ms 15 1) mt ol od)) : am_Run (d + 3) 144 [.ref 39, .int x, .int y, .int z] (am_W ha hz a1 s1 t1 a2 s2 t2 al ma ms mt ol od) K := by
  refine ⟨rfl, fun P hm hP => ?_⟩
  show P 0 [some (.ref 39), some (.int x), some (.int y), some (.int z)] [] _ 0 0
  refine s_aload_n hP t144_0 rfl ?_
  refine s_iload_n hP t144_1 rfl ?_
  refine s_iload_n hP t144_2 rfl ?_
  refine s_iload_n hP t144_3 rfl ?_
  refine s_invokestatic (bc' := 0) (bs' := 0) hP t144_4 rfl rfl rfl rfl rfl ?_
  refine sp103 ?_
  refine s_invokevirtual (bc' := 0) (bs' := 0) hP t144_7 rfl rfl rfl rfl rfl ?_
  refine sp99 ?_
  refine s_if_ne hP t144_10 (fun q10 => ?_) (fun q10 => ?_)
  · have e10 : mi_cell x y z = false := mt_nf (am_b_1.mp q10)
    rw [e10]
    refine s_iconst (v := 0) hP t144_31 (by decide) ?_
    refine s_ireturn hP t144_32 rfl rfl ?_
    exact kout e10
  · have e10 : mi_cell x y z = true := mt_nt (am_b_0.mp q10)
    rw [e10]
    obtain ⟨X, Y, Z, hX, hY, hZ, rfl, rfl, rfl⟩ := mi_cell_nI e10
    refine s_aload_n hP t144_13 rfl ?_
    refine s_getfield hP t144_14 rfl rfl ?_
    refine s_iload_n hP t144_17 rfl ?_
    refine s_iload_n hP t144_18 rfl ?_
    refine s_iload_n hP t144_19 rfl ?_
    refine s_invokestatic (bc' := 0) (bs' := 0) hP t144_20 rfl rfl rfl rfl rfl ?_
    refine sp104 ?_
    rw [show nI X + 16 * nI Y + 192 * nI Z = nI (X + 16 * Y + 192 * Z) by rw [show (16 : Int32) = nI 16 from rfl, show (192 : Int32) = nI 192 from rfl, pk_mul, pk_mul, nI_add, nI_add]]
    refine s_baload hP t144_23 rfl (vp_in_nI (by omega) (by decide)) ?_
    rw [nI_clamp (by omega), hS _ (by omega)]
    refine s_zne hP t144_24 (fun q24 => ?_) (fun q24 => ?_)
    · have e24 : S (X + 16 * Y + 192 * Z) = false := mt_nf q24
      have k9 := kin X Y Z hX hY hZ rfl rfl rfl
      rw [e24] at k9
      refine s_iconst (v := 0) hP t144_31 (by decide) ?_
      refine s_ireturn hP t144_32 rfl rfl ?_
      exact k9
    · have e24 : S (X + 16 * Y + 192 * Z) = true := mt_nt q24
      have k9 := kin X Y Z hX hY hZ rfl rfl rfl
      rw [e24] at k9
      refine s_iconst (v := 1) hP t144_27 (by decide) ?_
      refine s_goto hP t144_28 ?_
      refine s_ireturn hP t144_32 rfl rfl ?_
      exact k9
set_option maxHeartbeats 1000000 in
theorem sp145 {d : Nat} {K : am_K} {ha : Nat → Nat → Int32} {hz : Int32} {a1 : Nat → Nat → Int32} {s1 : Nat → Int32} {t1 : UInt32} {a2 : Nat → Nat → Int32} {s2 : Nat → Int32} {t2 : UInt32} {al : Int32} {ma : Nat → Nat → Int32} {ms : Nat → Int32} {mt : UInt32} {ol : Nat → Int64} {od : Nat → UInt64} {S : Nat → Bool} (hS : ∀ q, q < 1152 → ma 14 q = am_b (!S q)) {x y z : Int32} (kin : ∀ X Y Z, X < 16 → Y < 12 → Z < 6 → x = nI X → y = nI Y → z = nI Z → K (some (.int (am_b (S (X + 16 * Y + 192 * Z))))) (am_W ha hz a1 s1 t1 a2 s2 t2 al ma (am_u1 ms 15 0) mt ol od)) (kout : mi_cell x y z = false → K (some (.int 0)) (am_W ha hz a1 s1 t1 a2 s2 t2 al ma (am_u1 ms 15 1) mt ol od)) : am_Run (d + 4) 145 [.ref 39, .int x, .int y, .int z] (am_W ha hz a1 s1 t1 a2 s2 t2 al ma ms mt ol od) K := by
  refine ⟨rfl, fun P hm hP => ?_⟩
  show P 0 [some (.ref 39), some (.int x), some (.int y), some (.int z)] [] _ 0 0
  refine s_aload_n hP t145_0 rfl ?_
  refine s_iload_n hP t145_1 rfl ?_
  refine s_iload_n hP t145_2 rfl ?_
  refine s_iload_n hP t145_3 rfl ?_
  refine s_invokevirtual (bc' := 0) (bs' := 0) hP t145_4 rfl rfl rfl rfl rfl ?_
  refine sp144 hS (fun X Y Z h1 h2 h3 h4 h5 h6 => ?_) (fun h1 => ?_)
  · refine s_ireturn hP t145_7 rfl (am_nar_b _) ?_
    exact kin X Y Z h1 h2 h3 h4 h5 h6
  · refine s_ireturn hP t145_7 rfl rfl ?_
    exact kout h1
set_option maxHeartbeats 1000000 in
theorem sp140 {d : Nat} {K : am_K} {ha : Nat → Nat → Int32} {hz : Int32} {a1 : Nat → Nat → Int32} {s1 : Nat → Int32} {t1 : UInt32} {a2 : Nat → Nat → Int32} {s2 : Nat → Int32} {t2 : UInt32} {al : Int32} {ma : Nat → Nat → Int32} {ms : Nat → Int32} {mt : UInt32} {ol : Nat → Int64} {od : Nat → UInt64} {x : Int32} (kin : mi_iw x 0 7 = true → K (some (.int (ma 9 x.toNatClampNeg))) (am_W ha hz a1 s1 t1 a2 s2 t2 al ma (am_u1 ms 15 0) mt ol od)) (kout : mi_iw x 0 7 = false → K (some (.int 0)) (am_W ha hz a1 s1 t1 a2 s2 t2 al ma (am_u1 ms 15 1) mt ol od)) : am_Run (d + 2) 140 [.ref 39, .int x] (am_W ha hz a1 s1 t1 a2 s2 t2 al ma ms mt ol od) K := by
  refine ⟨rfl, fun P hm hP => ?_⟩
  show P 0 [some (.ref 39), some (.int x)] [] _ 0 0
  refine s_aload_n hP t140_0 rfl ?_
  refine s_iload_n hP t140_1 rfl ?_
  refine s_iconst (v := 0) hP t140_2 (by decide) ?_
  refine s_bipush (v := 7) hP t140_3 (by decide) ?_
  refine s_invokestatic (bc' := 0) (bs' := 0) hP t140_5 rfl rfl rfl rfl rfl ?_
  refine sp97 ?_
  refine s_invokevirtual (bc' := 0) (bs' := 0) hP t140_8 rfl rfl rfl rfl rfl ?_
  refine sp99 ?_
  refine s_if_le hP t140_11 (fun q11 => ?_) (fun q11 => ?_)
  · have e11 : mi_iw x 0 7 = true := by
      cases h9 : mi_iw x 0 7
      · rw [h9] at q11
        exact absurd q11 (by decide)
      · rfl
    rw [e11]
    refine s_aload_n hP t140_18 rfl ?_
    refine s_getfield hP t140_19 rfl rfl ?_
    refine s_iload_n hP t140_22 rfl ?_
    refine s_iaload hP t140_23 rfl (mi_iw_in (N := 7) rfl (by decide) e11) ?_
    refine s_ireturn hP t140_24 rfl rfl ?_
    exact kin e11
  · have e11 : mi_iw x 0 7 = false := by
      cases h9 : mi_iw x 0 7
      · rfl
      · rw [h9] at q11
        exact absurd (by decide) q11
    rw [e11]
    refine s_iconst (v := 0) hP t140_14 (by decide) ?_
    refine s_goto hP t140_15 ?_
    refine s_ireturn hP t140_24 rfl rfl ?_
    exact kout e11
set_option maxHeartbeats 1000000 in
theorem sp141 {d : Nat} {K : am_K} {ha : Nat → Nat → Int32} {hz : Int32} {a1 : Nat → Nat → Int32} {s1 : Nat → Int32} {t1 : UInt32} {a2 : Nat → Nat → Int32} {s2 : Nat → Int32} {t2 : UInt32} {al : Int32} {ma : Nat → Nat → Int32} {ms : Nat → Int32} {mt : UInt32} {ol : Nat → Int64} {od : Nat → UInt64} {x : Int32} (kin : mi_iw x 0 2 = true → K (some (.int (ma 11 x.toNatClampNeg))) (am_W ha hz a1 s1 t1 a2 s2 t2 al ma (am_u1 ms 15 0) mt ol od)) (kout : mi_iw x 0 2 = false → K (some (.int 0)) (am_W ha hz a1 s1 t1 a2 s2 t2 al ma (am_u1 ms 15 1) mt ol od)) : am_Run (d + 2) 141 [.ref 39, .int x] (am_W ha hz a1 s1 t1 a2 s2 t2 al ma ms mt ol od) K := by
  refine ⟨rfl, fun P hm hP => ?_⟩
  show P 0 [some (.ref 39), some (.int x)] [] _ 0 0
  refine s_aload_n hP t141_0 rfl ?_
  refine s_iload_n hP t141_1 rfl ?_
  refine s_iconst (v := 0) hP t141_2 (by decide) ?_
  refine s_iconst (v := 2) hP t141_3 (by decide) ?_
  refine s_invokestatic (bc' := 0) (bs' := 0) hP t141_4 rfl rfl rfl rfl rfl ?_
  refine sp97 ?_
  refine s_invokevirtual (bc' := 0) (bs' := 0) hP t141_7 rfl rfl rfl rfl rfl ?_
  refine sp99 ?_
  refine s_if_le hP t141_10 (fun q10 => ?_) (fun q10 => ?_)
  · have e10 : mi_iw x 0 2 = true := by
      cases h9 : mi_iw x 0 2
      · rw [h9] at q10
        exact absurd q10 (by decide)
      · rfl
    rw [e10]
    refine s_aload_n hP t141_17 rfl ?_
    refine s_getfield hP t141_18 rfl rfl ?_
    refine s_iload_n hP t141_21 rfl ?_
    refine s_iaload hP t141_22 rfl (mi_iw_in (N := 2) rfl (by decide) e10) ?_
    refine s_ireturn hP t141_23 rfl rfl ?_
    exact kin e10
  · have e10 : mi_iw x 0 2 = false := by
      cases h9 : mi_iw x 0 2
      · rfl
      · rw [h9] at q10
        exact absurd (by decide) q10
    rw [e10]
    refine s_iconst (v := 0) hP t141_13 (by decide) ?_
    refine s_goto hP t141_14 ?_
    refine s_ireturn hP t141_23 rfl rfl ?_
    exact kout e10
set_option maxHeartbeats 2000000 in
theorem sp143 {d : Nat} {K : am_K} {ha : Nat → Nat → Int32} {hz : Int32} {a1 : Nat → Nat → Int32} {s1 : Nat → Int32} {t1 : UInt32} {a2 : Nat → Nat → Int32} {s2 : Nat → Int32} {t2 : UInt32} {al : Int32} {ma : Nat → Nat → Int32} {ms : Nat → Int32} {mt : UInt32} {ol : Nat → Int64} {od : Nat → UInt64} {x y : Int32} (k0 : ∀ A B, A < 3 → B < 4 → x = nI A → y = nI B → ¬ ma 0 (4 * A + B) = 45 → K (some (.int (ma 4 (4 * A + B)))) (am_W ha hz a1 s1 t1 a2 s2 t2 al ma (am_u1 ms 15 0) mt ol od)) (k1 : mi_slot x y = false → K (some (.int 0)) (am_W ha hz a1 s1 t1 a2 s2 t2 al ma (am_u1 ms 15 1) mt ol od)) (k2 : ∀ A B, A < 3 → B < 4 → x = nI A → y = nI B → ma 0 (4 * A + B) = 45 → K (some (.int 0)) (am_W ha hz a1 s1 t1 a2 s2 t2 al ma (am_u1 ms 15 2) mt ol od)) : am_Run (d + 3) 143 [.ref 39, .int x, .int y] (am_W ha hz a1 s1 t1 a2 s2 t2 al ma ms mt ol od) K := by
  refine ⟨rfl, fun P hm hP => ?_⟩
  show P 0 [some (.ref 39), some (.int x), some (.int y)] [] _ 0 0
  refine s_aload_n hP t143_0 rfl ?_
  refine s_iload_n hP t143_1 rfl ?_
  refine s_iload_n hP t143_2 rfl ?_
  refine s_invokestatic (bc' := 0) (bs' := 0) hP t143_3 rfl rfl rfl rfl rfl ?_
  refine sp101 ?_
  refine s_zne hP t143_6 (fun q6 => ?_) (fun q6 => ?_)
  · obtain ⟨A, B, hA, hB, rfl, rfl⟩ := mi_slot_nI q6
    refine s_aload_n hP t143_13 rfl ?_
    refine s_getfield hP t143_14 rfl rfl ?_
    refine s_iconst (v := 4) hP t143_17 (by decide) ?_
    refine s_iload_n hP t143_18 rfl ?_
    refine s_imul hP t143_19 ?_
    refine s_iload_n hP t143_20 rfl ?_
    refine s_iadd hP t143_21 ?_
    rw [show 4 * nI A + nI B = nI (4 * A + B) from mi_slotN]
    refine s_caload hP t143_22 rfl (vp_in_nI (by omega) (by decide)) ?_
    rw [nI_clamp (by omega)]
    refine s_bipush (v := 45) hP t143_23 (by decide) ?_
    refine s_icmp_ne hP t143_25 (fun q25 => ?_) (fun q25 => ?_)
    · refine s_iconst (v := 0) hP t143_32 (by decide) ?_
      refine s_putfield hP t143_33 rfl rfl rfl rfl ?_
      refine s_aload_n hP t143_36 rfl ?_
      refine s_getfield hP t143_37 rfl rfl ?_
      refine s_if_le hP t143_40 (fun q40 => ?_) (fun q40 => ?_)
      · refine s_aload_n hP t143_47 rfl ?_
        refine s_getfield hP t143_48 rfl rfl ?_
        refine s_iconst (v := 4) hP t143_51 (by decide) ?_
        refine s_iload_n hP t143_52 rfl ?_
        refine s_imul hP t143_53 ?_
        refine s_iload_n hP t143_54 rfl ?_
        refine s_iadd hP t143_55 ?_
        rw [show 4 * nI A + nI B = nI (4 * A + B) from mi_slotN]
        refine s_iaload hP t143_56 rfl (vp_in_nI (by omega) (by decide)) ?_
        rw [nI_clamp (by omega)]
        refine s_ireturn hP t143_57 rfl rfl ?_
        exact k0 A B hA hB rfl rfl q25
      · exact absurd (show (0 : Int32) ≤ 0 by decide) q40
    · refine s_iconst (v := 2) hP t143_28 (by decide) ?_
      refine s_goto hP t143_29 ?_
      refine s_putfield hP t143_33 rfl rfl rfl rfl ?_
      refine s_aload_n hP t143_36 rfl ?_
      refine s_getfield hP t143_37 rfl rfl ?_
      refine s_if_le hP t143_40 (fun q40 => ?_) (fun q40 => ?_)
      · exact absurd q40 (show ¬ (2 : Int32) ≤ 0 by decide)
      · refine s_iconst (v := 0) hP t143_43 (by decide) ?_
        refine s_goto hP t143_44 ?_
        refine s_ireturn hP t143_57 rfl rfl ?_
        exact k2 A B hA hB rfl rfl q25
  · have q6 : mi_slot x y = false := q6
    refine s_iconst (v := 1) hP t143_9 (by decide) ?_
    refine s_goto hP t143_10 ?_
    refine s_putfield hP t143_33 rfl rfl rfl rfl ?_
    refine s_aload_n hP t143_36 rfl ?_
    refine s_getfield hP t143_37 rfl rfl ?_
    refine s_if_le hP t143_40 (fun q40 => ?_) (fun q40 => ?_)
    · exact absurd q40 (show ¬ (1 : Int32) ≤ 0 by decide)
    · refine s_iconst (v := 0) hP t143_43 (by decide) ?_
      refine s_goto hP t143_44 ?_
      refine s_ireturn hP t143_57 rfl rfl ?_
      exact k1 q6
/-- the height of the stock in a column, below a level -/
def mt_hgt (S : Nat → Bool) (X Y : Nat) : Nat → Nat
  | 0 => 0
  | h + 1 => if S (X + 16 * Y + 192 * h) = true then h + 1 else mt_hgt S X Y h
set_option maxHeartbeats 2000000 in
theorem sp148 {d : Nat} {K : am_K} {ha : Nat → Nat → Int32} {hz : Int32} {a1 : Nat → Nat → Int32} {s1 : Nat → Int32} {t1 : UInt32} {a2 : Nat → Nat → Int32} {s2 : Nat → Int32} {t2 : UInt32} {al : Int32} {ma : Nat → Nat → Int32} {ms : Nat → Int32} {mt : UInt32} {ol : Nat → Int64} {od : Nat → UInt64} {S : Nat → Bool} (hS : ∀ q, q < 1152 → ma 14 q = am_b (!S q)) {x y : Int32} (kin : ∀ X Y, X < 16 → Y < 12 → x = nI X → y = nI Y → K (some (.int (nI (mt_hgt S X Y 6)))) (am_W ha hz a1 s1 t1 a2 s2 t2 al ma (am_u1 ms 15 0) mt ol od)) (kout : mi_cell x y 0 = false → K (some (.int 0)) (am_W ha hz a1 s1 t1 a2 s2 t2 al ma (am_u1 ms 15 1) mt ol od)) : am_Run (d + 3) 148 [.ref 39, .int x, .int y] (am_W ha hz a1 s1 t1 a2 s2 t2 al ma ms mt ol od) K := by
  refine ⟨rfl, fun P hm hP => ?_⟩
  show P 0 [some (.ref 39), some (.int x), some (.int y), none] [] _ 0 0
  refine s_aload_n hP t148_0 rfl ?_
  refine s_iload_n hP t148_1 rfl ?_
  refine s_iload_n hP t148_2 rfl ?_
  refine s_iconst (v := 0) hP t148_3 (by decide) ?_
  refine s_invokestatic (bc' := 0) (bs' := 0) hP t148_4 rfl rfl rfl rfl rfl ?_
  refine sp103 ?_
  refine s_invokevirtual (bc' := 0) (bs' := 0) hP t148_7 rfl rfl rfl rfl rfl ?_
  refine sp99 ?_
  refine s_if_le hP t148_10 (fun q10 => ?_) (fun q10 => ?_)
  · have e10 : mi_cell x y 0 = true := by
      cases h9 : mi_cell x y 0
      · rw [h9] at q10
        exact absurd q10 (by decide)
      · rfl
    rw [e10]
    obtain ⟨X, Y, Z, hX, hY, hZ, rfl, rfl, hz0⟩ := mi_cell_nI e10
    refine s_bipush (v := 6) hP t148_15 (by decide) ?_
    refine s_istore_n_3 hP t148_17 (by exact rfl) ?_
    have loop : ∀ Hh : Nat, Hh ≤ 6 → mt_hgt S X Y Hh = mt_hgt S X Y 6 → P 18 [some (.ref 39), some (.int (nI X)), some (.int (nI Y)), some (.int (nI Hh))] [] (am_W ha hz a1 s1 t1 a2 s2 t2 al ma (am_u1 ms 15 0) mt ol od) 0 0 := by
      intro Hh
      induction Hh with
      | zero =>
        intro h3 hr
        refine s_iload_n hP t148_18 rfl ?_
        refine s_if_le hP t148_19 (fun q19 => ?_) (fun q19 => ?_)
        · refine s_iload_n hP t148_44 rfl ?_
          refine s_ireturn hP t148_45 rfl rfl ?_
          rw [show nI 0 = nI (mt_hgt S X Y 6) by rw [← hr]; rfl]
          exact kin X Y hX hY rfl rfl
        · exact absurd (Int32.le_refl _) q19
      | succ h9 ih =>
        intro h3 hr
        refine s_iload_n hP t148_18 rfl ?_
        refine s_if_le hP t148_19 (fun q19 => ?_) (fun q19 => ?_)
        · exact absurd ((nI_leI (b := 0) (by omega) (by decide)).mp q19) (by omega)
        · refine s_aload_n hP t148_22 rfl ?_
          refine s_getfield hP t148_23 rfl rfl ?_
          refine s_iload_n hP t148_26 rfl ?_
          refine s_iload_n hP t148_27 rfl ?_
          refine s_iload_n hP t148_28 rfl ?_
          refine s_iconst (v := 1) hP t148_29 (by decide) ?_
          refine s_isub hP t148_30 ?_
          refine s_invokestatic (bc' := 0) (bs' := 0) hP t148_31 rfl rfl rfl rfl rfl ?_
          refine sp104 ?_
          rw [nI_pred, show nI X + 16 * nI Y + 192 * nI h9 = nI (X + 16 * Y + 192 * h9) by rw [show (16 : Int32) = nI 16 from rfl, show (192 : Int32) = nI 192 from rfl, pk_mul, pk_mul, nI_add, nI_add]]
          refine s_baload hP t148_34 rfl (vp_in_nI (by omega) (by decide)) ?_
          rw [nI_clamp (by omega), hS _ (by omega)]
          refine s_zeq hP t148_35 (fun q35 => ?_) (fun q35 => ?_)
          · have e35 : S (X + 16 * Y + 192 * h9) = true := mt_nt q35
            refine s_iload_n hP t148_44 rfl ?_
            refine s_ireturn hP t148_45 rfl rfl ?_
            rw [show nI (h9 + 1) = nI (mt_hgt S X Y 6) by rw [← hr, mt_hgt, if_pos e35]]
            exact kin X Y hX hY rfl rfl
          · have e35 : S (X + 16 * Y + 192 * h9) = false := mt_nf q35
            refine s_iinc_3 (v := (-1)) hP t148_38 (by decide) (by exact rfl) ?_
            refine s_goto hP t148_41 ?_
            rw [nI_m1]
            exact ih (by omega) (by rw [mt_hgt, if_neg (by rw [e35]; decide)] at hr; exact hr)
    exact loop 6 (Nat.le_refl _) rfl
  · have e10 : mi_cell x y 0 = false := by
      cases h9 : mi_cell x y 0
      · rfl
      · rw [h9] at q10
        exact absurd (by decide) q10
    rw [e10]
    refine s_iconst (v := 0) hP t148_13 (by decide) ?_
    refine s_ireturn hP t148_14 rfl rfl ?_
    exact kout e10
set_option maxHeartbeats 2000000 in
theorem sp152 {d : Nat} {K : am_K} {ha : Nat → Nat → Int32} {hz : Int32} {a1 : Nat → Nat → Int32} {s1 : Nat → Int32} {t1 : UInt32} {a2 : Nat → Nat → Int32} {s2 : Nat → Int32} {t2 : UInt32} {al : Int32} {ma : Nat → Nat → Int32} {ms : Nat → Int32} {mt : UInt32} {ol : Nat → Int64} {od : Nat → UInt64} (hn : 0 < mr_cnt 12 (fun c => !decide (ma 0 c = 45)) → vf_n64 (FP.ddiv (FP.i2d (mi_sum 12 (ma 4))) (FP.i2d (nI (mr_cnt 12 (fun c => !decide (ma 0 c = 45))))))) (k0 : mr_cnt 12 (fun c => !decide (ma 0 c = 45)) = 0 → K (some (.double FP.dconst0)) (am_W ha hz a1 s1 t1 a2 s2 t2 al ma (am_u1 ms 15 1) mt ol od)) (k1 : 0 < mr_cnt 12 (fun c => !decide (ma 0 c = 45)) → K (some (.double (FP.ddiv (FP.i2d (mi_sum 12 (ma 4))) (FP.i2d (nI (mr_cnt 12 (fun c => !decide (ma 0 c = 45)))))))) (am_W ha hz a1 s1 t1 a2 s2 t2 al ma (am_u1 ms 15 0) mt ol od)) : am_Run (d + 2) 152 [.ref 39] (am_W ha hz a1 s1 t1 a2 s2 t2 al ma ms mt ol od) K := by
  refine ⟨rfl, fun P hm hP => ?_⟩
  show P 0 [some (.ref 39), none, none, none] [] _ 0 0
  have tail : P 46 [some (.ref 39), some (.int (nI (mr_cnt 12 (fun c => !decide (ma 0 c = 45))))), some (.int (mi_sum 12 (ma 4))), some (.int (nI 12))] [] (am_W ha hz a1 s1 t1 a2 s2 t2 al ma ms mt ol od) 0 0 := by
    refine s_aload_n hP t152_46 rfl ?_
    refine s_iload_n hP t152_47 rfl ?_
    refine s_if_le hP t152_48 (fun q48 => ?_) (fun q48 => ?_)
    · have e48 : mr_cnt 12 (fun c => !decide (ma 0 c = 45)) = 0 := by
        have := (nI_leI (b := 0) (by have := mr_cnt_le 12 (fun c => !decide (ma 0 c = 45)); omega) (by decide)).mp q48
        omega
      refine s_iconst (v := 0) hP t152_55 (by decide) ?_
      refine s_invokevirtual (bc' := 0) (bs' := 0) hP t152_56 rfl rfl rfl rfl rfl ?_
      refine sp99 (x := false) ?_
      refine s_if_le hP t152_59 (fun q59 => ?_) (fun q59 => ?_)
      · exact absurd q59 (show ¬ (1 : Int32) ≤ 0 by decide)
      · refine s_dconst0 hP t152_62 ?_
        refine s_goto hP t152_63 ?_
        refine s_dreturn hP t152_71 rfl ?_
        exact k0 e48
    · have e48 : 0 < mr_cnt 12 (fun c => !decide (ma 0 c = 45)) := Nat.lt_of_not_le (fun q => q48 ((nI_leI (b := 0) (by have := mr_cnt_le 12 (fun c => !decide (ma 0 c = 45)); omega) (by decide)).mpr q))
      refine s_iconst (v := 1) hP t152_51 (by decide) ?_
      refine s_goto hP t152_52 ?_
      refine s_invokevirtual (bc' := 0) (bs' := 0) hP t152_56 rfl rfl rfl rfl rfl ?_
      refine sp99 (x := true) ?_
      refine s_if_le hP t152_59 (fun q59 => ?_) (fun q59 => ?_)
      · refine s_iload_n hP t152_66 rfl ?_
        refine s_i2d hP t152_67 ?_
        refine s_iload_n hP t152_68 rfl ?_
        refine s_i2d hP t152_69 ?_
        refine s_ddiv hP t152_70 (hn e48) ?_
        refine s_dreturn hP t152_71 rfl ?_
        exact k1 e48
      · exact absurd (show (0 : Int32) ≤ 0 by decide) q59
  have loop : ∀ (n i : Nat), i ≤ 12 → 12 + 1 ≤ i + n → P 6 [some (.ref 39), some (.int (nI (mr_cnt i (fun c => !decide (ma 0 c = 45))))), some (.int (mi_sum i (ma 4))), some (.int (nI i))] [] (am_W ha hz a1 s1 t1 a2 s2 t2 al ma ms mt ol od) 0 0 := by
    intro n
    induction n with
    | zero => intro i h3 h4; omega
    | succ n ih =>
      intro i h3 h4
      refine s_iload_n hP t152_6 rfl ?_
      refine s_bipush (v := 12) hP t152_7 (by decide) ?_
      refine s_icmp_ge hP t152_9 (fun q9 => ?_) (fun q9 => ?_)
      · have e9 : 12 ≤ i := mi_leN (by decide) (by omega) q9
        obtain rfl : i = 12 := by omega
        exact tail
      · have e9 : i < 12 := mi_nleN (a := 12) (by decide) (by omega) q9
        refine s_iload_n hP t152_12 rfl ?_
        refine s_aload_n hP t152_13 rfl ?_
        refine s_getfield hP t152_14 rfl rfl ?_
        refine s_iload_n hP t152_17 rfl ?_
        refine s_caload hP t152_18 rfl (vp_in_nI e9 (by decide)) ?_
        rw [nI_clamp (by omega)]
        refine s_bipush (v := 45) hP t152_19 (by decide) ?_
        refine s_icmp_ne hP t152_21 (fun q21 => ?_) (fun q21 => ?_)
        · have e21 : (!decide (ma 0 i = 45)) = true := by rw [decide_eq_false q21]; rfl
          refine s_iconst (v := 1) hP t152_28 (by decide) ?_
          refine s_iadd hP t152_29 ?_
          rw [show nI (mr_cnt i (fun c => !decide (ma 0 c = 45))) + 1 = nI (mr_cnt (i + 1) (fun c => !decide (ma 0 c = 45))) by rw [nI_1, mr_cnt, e21]; rfl]
          refine s_istore_n_1 hP t152_30 (by exact rfl) ?_
          refine s_iload_n hP t152_31 rfl ?_
          refine s_aload_n hP t152_32 rfl ?_
          refine s_getfield hP t152_33 rfl rfl ?_
          refine s_iload_n hP t152_36 rfl ?_
          refine s_iaload hP t152_37 rfl (vp_in_nI e9 (by decide)) ?_
          rw [nI_clamp (by omega)]
          refine s_iadd hP t152_38 ?_
          refine s_istore_n_2 hP t152_39 (by exact rfl) ?_
          refine s_iinc_3 (v := 1) hP t152_40 (by decide) (by exact rfl) ?_
          refine s_goto hP t152_43 ?_
          rw [nI_1]
          exact ih (i + 1) (by omega) (by omega)
        · have e21 : (!decide (ma 0 i = 45)) = false := by rw [decide_eq_true q21]; rfl
          refine s_iconst (v := 0) hP t152_24 (by decide) ?_
          refine s_goto hP t152_25 ?_
          refine s_iadd hP t152_29 ?_
          rw [show nI (mr_cnt i (fun c => !decide (ma 0 c = 45))) + 0 = nI (mr_cnt (i + 1) (fun c => !decide (ma 0 c = 45))) by rw [show ∀ n : Nat, nI n + 0 = nI n from fun n => nI_add n 0, mr_cnt, e21]; rfl]
          refine s_istore_n_1 hP t152_30 (by exact rfl) ?_
          refine s_iload_n hP t152_31 rfl ?_
          refine s_aload_n hP t152_32 rfl ?_
          refine s_getfield hP t152_33 rfl rfl ?_
          refine s_iload_n hP t152_36 rfl ?_
          refine s_iaload hP t152_37 rfl (vp_in_nI e9 (by decide)) ?_
          rw [nI_clamp (by omega)]
          refine s_iadd hP t152_38 ?_
          refine s_istore_n_2 hP t152_39 (by exact rfl) ?_
          refine s_iinc_3 (v := 1) hP t152_40 (by decide) (by exact rfl) ?_
          refine s_goto hP t152_43 ?_
          rw [nI_1]
          exact ih (i + 1) (by omega) (by omega)
  refine s_iconst (v := 0) hP t152_0 (by decide) ?_
  refine s_istore_n_1 hP t152_1 (by exact rfl) ?_
  refine s_iconst (v := 0) hP t152_2 (by decide) ?_
  refine s_istore_n_2 hP t152_3 (by exact rfl) ?_
  refine s_iconst (v := 0) hP t152_4 (by decide) ?_
  refine s_istore_n_3 hP t152_5 (by exact rfl) ?_
  exact loop 13 0 (by omega) (by omega)
set_option maxHeartbeats 2000000 in
theorem sp153 {d : Nat} {K : am_K} {ha : Nat → Nat → Int32} {hz : Int32} {a1 : Nat → Nat → Int32} {s1 : Nat → Int32} {t1 : UInt32} {a2 : Nat → Nat → Int32} {s2 : Nat → Int32} {t2 : UInt32} {al : Int32} {ma : Nat → Nat → Int32} {ms : Nat → Int32} {mt : UInt32} {ol : Nat → Int64} {od : Nat → UInt64} {S : Nat → Bool} (hS : ∀ q, q < 1152 → ma 14 q = am_b (!S q)) (hn : vf_n32 (FP.fdiv (FP.i2f (nI (1152 - mr_cnt 1152 S))) 1150287872)) (k : K (some (.float (if mr_cnt 1152 S < 1152 - mr_cnt 1152 S then FP.fneg (FP.fdiv (FP.i2f (nI (1152 - mr_cnt 1152 S))) 1150287872) else (FP.fdiv (FP.i2f (nI (1152 - mr_cnt 1152 S))) 1150287872)))) (am_W ha hz a1 s1 t1 a2 s2 t2 al ma (am_u1 ms 15 0) mt ol od)) : am_Run (d + 2) 153 [.ref 39] (am_W ha hz a1 s1 t1 a2 s2 t2 al ma ms mt ol od) K := by
  refine ⟨rfl, fun P hm hP => ?_⟩
  show P 0 [some (.ref 39), none, none] [] _ 0 0
  refine s_aload_n hP t153_0 rfl ?_
  refine s_iconst (v := 0) hP t153_1 (by decide) ?_
  refine s_putfield hP t153_2 rfl rfl rfl rfl ?_
  refine s_sipush (v := 1152) hP t153_5 (by decide) ?_
  refine s_aload_n hP t153_8 rfl ?_
  refine s_invokevirtual (bc' := 0) (bs' := 0) hP t153_9 rfl rfl rfl rfl rfl ?_
  refine sp146 (ms := am_u1 ms 15 0) hS ?_
  refine s_isub hP t153_12 ?_
  rw [show (1152 : Int32) - nI (mr_cnt 1152 S) = nI (1152 - mr_cnt 1152 S) from pk_sub (mr_cnt_le 1152 S)]
  refine s_istore_n_1 hP t153_13 (by exact rfl) ?_
  refine s_iload_n hP t153_14 rfl ?_
  refine s_i2f hP t153_15 ?_
  refine s_ldcf (v := 1150287872) hP t153_16 rfl ?_
  refine s_fdiv hP t153_18 hn ?_
  refine s_fstore_n_2 hP t153_19 (by exact rfl) ?_
  refine s_aload_n hP t153_20 rfl ?_
  refine s_invokevirtual (bc' := 0) (bs' := 0) hP t153_21 rfl rfl rfl rfl rfl ?_
  refine sp146 (ms := am_u1 ms 15 0) hS ?_
  refine s_iload_n hP t153_24 rfl ?_
  refine s_icmp_ge hP t153_25 (fun q25 => ?_) (fun q25 => ?_)
  · have e25 : ¬ mr_cnt 1152 S < 1152 - mr_cnt 1152 S := by
      have h9 := mr_cnt_le 1152 S
      have := (nI_leI (by omega) (by omega)).mp q25
      omega
    refine s_fload_n hP t153_33 rfl ?_
    refine s_freturn hP t153_34 rfl ?_
    rw [if_neg e25] at k
    exact k
  · have e25 : mr_cnt 1152 S < 1152 - mr_cnt 1152 S := by
      have h9 := mr_cnt_le 1152 S
      exact Nat.lt_of_not_le (fun q => q25 ((nI_leI (by omega) (by omega)).mpr q))
    refine s_fload_n hP t153_28 rfl ?_
    refine s_fneg hP t153_29 ?_
    refine s_goto hP t153_30 ?_
    refine s_freturn hP t153_34 rfl ?_
    rw [if_pos e25] at k
    exact k
set_option maxHeartbeats 1000000 in
theorem sp155 {d : Nat} {K : am_K} {h : am_H} {x : UInt32} (hc : FP.fcmp x x = some .eq) (k : K (some (.int (am_b false))) h) : am_Run (d + 1) 155 [.float x] h K := by
  refine ⟨rfl, fun P hm hP => ?_⟩
  show P 0 [some (.float x)] [] _ 0 0
  refine s_fload_n hP t155_0 rfl ?_
  refine s_fload_n hP t155_1 rfl ?_
  refine s_fcmp hP t155_2 ?_
  refine s_if_eq hP t155_3 (fun q3 => ?_) (fun q3 => ?_)
  · refine s_iconst (v := 0) hP t155_10 (by decide) ?_
    refine s_ireturn hP t155_11 rfl rfl ?_
    exact k
  · refine s_iconst (v := 1) hP t155_6 (by decide) ?_
    refine s_goto hP t155_7 ?_
    refine s_ireturn hP t155_11 rfl rfl ?_
    rw [hc] at q3
    exact absurd rfl q3
set_option maxHeartbeats 1000000 in
theorem sp156 {d : Nat} {K : am_K} {h : am_H} {x : UInt32} (hc : FP.fcmp x x = some .eq) (k : K (some (.int x.toInt32)) h) : am_Run (d + 2) 156 [.float x] h K := by
  refine ⟨rfl, fun P hm hP => ?_⟩
  show P 0 [some (.float x)] [] _ 0 0
  refine s_fload_n hP t156_0 rfl ?_
  refine s_invokestatic (bc' := 0) (bs' := 0) hP t156_1 rfl rfl rfl rfl rfl ?_
  refine sp155 hc ?_
  refine s_zne hP t156_4 (fun q4 => ?_) (fun q4 => ?_)
  · exact absurd q4 (by decide)
  · refine s_fload_n hP t156_7 rfl ?_
    refine s_f2raw hP t156_8 rfl ?_
    refine s_ireturn hP t156_11 rfl rfl ?_
    exact k
set_option maxHeartbeats 1000000 in
theorem sp151 {d : Nat} {K : am_K} {ha : Nat → Nat → Int32} {hz : Int32} {a1 : Nat → Nat → Int32} {s1 : Nat → Int32} {t1 : UInt32} {a2 : Nat → Nat → Int32} {s2 : Nat → Int32} {t2 : UInt32} {al : Int32} {ma : Nat → Nat → Int32} {ms : Nat → Int32} {mt : UInt32} {ol : Nat → Int64} {od : Nat → UInt64} (hc : FP.fcmp mt mt = some .eq) (k : K (some (.int (mt.toInt32))) (am_W ha hz a1 s1 t1 a2 s2 t2 al ma (am_u1 ms 15 0) mt ol od)) : am_Run (d + 3) 151 [.ref 39] (am_W ha hz a1 s1 t1 a2 s2 t2 al ma ms mt ol od) K := by
  refine ⟨rfl, fun P hm hP => ?_⟩
  show P 0 [some (.ref 39)] [] _ 0 0
  refine s_aload_n hP t151_0 rfl ?_
  refine s_aload_n hP t151_1 rfl ?_
  refine s_getfield hP t151_2 rfl rfl ?_
  refine s_invokestatic (bc' := 0) (bs' := 0) hP t151_5 rfl rfl rfl rfl rfl ?_
  refine sp156 hc ?_
  refine s_invokevirtual (bc' := 0) (bs' := 0) hP t151_8 rfl rfl rfl rfl rfl ?_
  refine sp98 ?_
  refine s_ireturn hP t151_11 rfl rfl ?_
  exact k
