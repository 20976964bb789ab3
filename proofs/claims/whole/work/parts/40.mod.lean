/-! THE MODEL: what a cutter reaches, meets and takes. (rows by gen/sp17.py) -/
theorem mt_nt {b : Bool} (h : (!b) = false) : b = true := by cases b <;> simp_all
theorem mt_nf {b : Bool} (h : (!b) = true) : b = false := by cases b <;> simp_all
theorem mt_d16 : ∀ y, y < 16 → ∀ Y, Y < 16 → (nI y - nI Y) * (nI y - nI Y) = nI (mr_d y Y) := by decide +kernel
theorem mt_d16b : ∀ y, y < 16 → ∀ Y, Y < 16 → mr_d y Y < 400 := by decide +kernel
theorem mt_q : ∀ q, q < 1152 → nI q - nI q / 16 * 16 = nI (q % 16) ∧ nI q / 16 - nI q / 16 / 12 * 12 = nI (q / 16 % 12) ∧ nI q / 192 = nI (q / 192) := by decide +kernel
theorem mt_hneg : ∀ z, z < 6 → ∀ Z, Z < 10 → (nI z - nI Z < (0 : Int32) ↔ z < Z) ∧ (Z ≤ z → nI z - nI Z = nI (z - Z)) := by decide +kernel
theorem mt_less : ∀ l, l < 10 → ∀ R, R < 4 → (if nI l < nI R then nI l else nI R) = nI (min l R) := by decide +kernel
theorem mt_b : ∀ l, l < 10 → ∀ R, R < 4 → (nI R - nI (min l R)) * (nI R - nI (min l R)) = nI ((R - min l R) * (R - min l R)) := by decide +kernel
set_option maxHeartbeats 1000000 in
theorem sp116n {d : Nat} {K : am_K} {ha : Nat → Nat → Int32} {hz : Int32} {a1 : Nat → Nat → Int32} {s1 : Nat → Int32} {t1 : UInt32} {a2 : Nat → Nat → Int32} {s2 : Nat → Int32} {t2 : UInt32} {al : Int32} {ma : Nat → Nat → Int32} {ms : Nat → Int32} {mt : UInt32} {ol : Nat → Int64} {od : Nat → UInt64} {c s R : Nat} (hc : ms 19 = nI c) (hc9 : c < 12) (hs : ma 0 c = nI s) (hr : ma 2 c = nI R) (hsh : s = 101 ∨ s = 98 ∨ s = 118) (hR : R < 4) {x y z : Int32} {D1 D2 : Nat} (h1 : x * x = nI D1) (h2 : y * y = nI D2) (hh : z < 0) (k : K (some (.int 0)) (am_W ha hz a1 s1 t1 a2 s2 t2 al ma ms mt ol od)) : am_Run (d + 1) 116 [.ref 39, .int x, .int y, .int z] (am_W ha hz a1 s1 t1 a2 s2 t2 al ma ms mt ol od) K := by
  refine ⟨rfl, fun P hm hP => ?_⟩
  show P 0 [some (.ref 39), some (.int x), some (.int y), some (.int z), none, none, none] [] _ 0 0
  refine s_iload_n hP t116_0 rfl ?_
  refine s_iload_n hP t116_1 rfl ?_
  refine s_imul hP t116_2 ?_
  rw [h1]
  refine s_iload_n hP t116_3 rfl ?_
  refine s_iload_n hP t116_4 rfl ?_
  refine s_imul hP t116_5 ?_
  rw [h2]
  refine s_iadd hP t116_6 ?_
  rw [nI_add]
  refine s_istore_4 hP t116_7 (by exact rfl) ?_
  refine s_aload_n hP t116_9 rfl ?_
  refine s_getfield hP t116_10 rfl rfl ?_
  refine s_aload_n hP t116_13 rfl ?_
  refine s_getfield hP t116_14 rfl rfl ?_
  refine s_iaload hP t116_17 rfl (by show vp_in (ms 19) 12; rw [hc]; exact vp_in_nI (by omega) (by decide)) ?_
  rw [show (ms 19).toNatClampNeg = c by rw [hc]; exact nI_clamp (by omega)]
  rw [hr]
  refine s_istore_5 hP t116_18 (by exact rfl) ?_
  refine s_iload_n hP t116_20 rfl ?_
  refine s_if_ge hP t116_21 (fun q21 => ?_) (fun q21 => ?_)
  · exact absurd (Int32.not_lt.mpr q21) (fun h => h hh)
  · refine s_iconst (v := 0) hP t116_24 (by decide) ?_
    refine s_ireturn hP t116_25 rfl rfl ?_
    exact k
theorem nI_inj {a b : Nat} (ha : a < 2 ^ 31) (hb : b < 2 ^ 31) : nI a = nI b ↔ a = b := ⟨fun h => Nat.le_antisymm ((nI_leI ha hb).mp (by rw [h]; exact Int32.le_refl _)) ((nI_leI hb ha).mp (by rw [h]; exact Int32.le_refl _)), fun h => by rw [h]⟩
set_option maxHeartbeats 2000000 in
theorem sp116p {d : Nat} {K : am_K} {ha : Nat → Nat → Int32} {hz : Int32} {a1 : Nat → Nat → Int32} {s1 : Nat → Int32} {t1 : UInt32} {a2 : Nat → Nat → Int32} {s2 : Nat → Int32} {t2 : UInt32} {al : Int32} {ma : Nat → Nat → Int32} {ms : Nat → Int32} {mt : UInt32} {ol : Nat → Int64} {od : Nat → UInt64} {c s R : Nat} (hc : ms 19 = nI c) (hc9 : c < 12) (hs : ma 0 c = nI s) (hr : ma 2 c = nI R) (hsh : s = 101 ∨ s = 98 ∨ s = 118) (hR : R < 4) {x y : Int32} {D1 D2 : Nat} (h1 : x * x = nI D1) (h2 : y * y = nI D2) (hD : D1 + D2 < 1000) {l : Nat} (hl : l < 10) (k : K (some (.int (am_b (decide (D1 + D2 ≤ mr_sq s R l))))) (am_W ha hz a1 s1 t1 a2 s2 t2 al ma ms mt ol od)) : am_Run (d + 1) 116 [.ref 39, .int x, .int y, .int (nI l)] (am_W ha hz a1 s1 t1 a2 s2 t2 al ma ms mt ol od) K := by
  refine ⟨rfl, fun P hm hP => ?_⟩
  show P 0 [some (.ref 39), some (.int x), some (.int y), some (.int (nI l)), none, none, none] [] _ 0 0
  have hRR : R * R < 2 ^ 31 := Nat.lt_of_le_of_lt (Nat.mul_le_mul (show R ≤ 3 by omega) (show R ≤ 3 by omega)) (by decide)
  have hRR9 : R * R ≤ 9 := Nat.mul_le_mul (show R ≤ 3 by omega) (show R ≤ 3 by omega)
  have tail70 : ¬ nI s = 101 → ∀ {w : Int32}, w = nI (min l R) → P 70 [some (.ref 39), some (.int x), some (.int y), some (.int (nI l)), some (.int (nI (D1 + D2))), some (.int (nI R)), some (.int w)] [] (am_W ha hz a1 s1 t1 a2 s2 t2 al ma ms mt ol od) 0 0 := by
    intro q37 w hw
    subst hw
    refine s_aload_n hP t116_70 rfl ?_
    refine s_getfield hP t116_71 rfl rfl ?_
    refine s_aload_n hP t116_74 rfl ?_
    refine s_getfield hP t116_75 rfl rfl ?_
    refine s_caload hP t116_78 rfl (by show vp_in (ms 19) 12; rw [hc]; exact vp_in_nI (by omega) (by decide)) ?_
    rw [show (ms 19).toNatClampNeg = c by rw [hc]; exact nI_clamp (by omega)]
    rw [hs]
    refine s_bipush (v := 98) hP t116_79 (by decide) ?_
    refine s_icmp_ne hP t116_81 (fun q81 => ?_) (fun q81 => ?_)
    · refine s_iload hP t116_114 rfl ?_
      refine s_iload hP t116_116 rfl ?_
      refine s_iload hP t116_118 rfl ?_
      refine s_imul hP t116_120 ?_
      refine s_icmp_gt hP t116_121 (fun q121 => ?_) (fun q121 => ?_)
      · refine s_iconst (v := 0) hP t116_128 (by decide) ?_
        refine s_ireturn hP t116_129 rfl rfl ?_
        have e37 : ¬ s = 101 := fun h => q37 (by rw [h]; rfl)
        have e81 : s = 118 := hsh.elim (fun h => absurd h e37) (fun h => h.elim (fun h => absurd (by rw [h]; rfl) q81) id)
        have hmm : min l R * min l R ≤ 9 := Nat.mul_le_mul (show min l R ≤ 3 by omega) (show min l R ≤ 3 by omega)
        rw [pk_mul] at q121
        have e9 : decide (D1 + D2 ≤ mr_sq s R l) = false := decide_eq_false (by
          rw [mr_sq, if_neg e37, if_pos e81]
          exact fun h => absurd ((nI_leI (a := D1 + D2) (b := min l R * min l R) (by omega) (by omega)).mpr h) (Int32.not_le.mpr q121))
        rw [e9] at k
        exact k
      · refine s_iconst (v := 1) hP t116_124 (by decide) ?_
        refine s_goto hP t116_125 ?_
        refine s_ireturn hP t116_129 rfl rfl ?_
        have e37 : ¬ s = 101 := fun h => q37 (by rw [h]; rfl)
        have e81 : s = 118 := hsh.elim (fun h => absurd h e37) (fun h => h.elim (fun h => absurd (by rw [h]; rfl) q81) id)
        have hmm : min l R * min l R ≤ 9 := Nat.mul_le_mul (show min l R ≤ 3 by omega) (show min l R ≤ 3 by omega)
        rw [pk_mul] at q121
        have e9 : decide (D1 + D2 ≤ mr_sq s R l) = true := decide_eq_true (by
          rw [mr_sq, if_neg e37, if_pos e81]
          exact (nI_leI (a := D1 + D2) (b := min l R * min l R) (by omega) (by omega)).mp (Int32.not_lt.mp q121))
        rw [e9] at k
        exact k
    · refine s_iload hP t116_84 rfl ?_
      refine s_iload hP t116_86 rfl ?_
      refine s_iload hP t116_88 rfl ?_
      refine s_isub hP t116_90 ?_
      refine s_iload hP t116_91 rfl ?_
      refine s_iload hP t116_93 rfl ?_
      refine s_isub hP t116_95 ?_
      refine s_imul hP t116_96 ?_
      refine s_iadd hP t116_97 ?_
      refine s_iload hP t116_98 rfl ?_
      refine s_iload hP t116_100 rfl ?_
      refine s_imul hP t116_102 ?_
      rw [pk_mul]
      refine s_icmp_gt hP t116_103 (fun q103 => ?_) (fun q103 => ?_)
      · refine s_iconst (v := 0) hP t116_110 (by decide) ?_
        refine s_goto hP t116_111 ?_
        refine s_ireturn hP t116_129 rfl rfl ?_
        have e37 : ¬ s = 101 := fun h => q37 (by rw [h]; rfl)
        have e81 : s = 98 := (nI_inj (by omega) (by decide)).mp q81
        rw [mt_b l hl R hR, nI_add] at q103
        have hbb : (R - min l R) * (R - min l R) ≤ R * R := Nat.mul_le_mul (Nat.sub_le _ _) (Nat.sub_le _ _)
        have e9 : decide (D1 + D2 ≤ mr_sq s R l) = false := decide_eq_false (by
          rw [mr_sq, if_neg e37, if_neg (by omega)]
          exact fun h => absurd ((nI_leI (a := D1 + D2 + (R - min l R) * (R - min l R)) (b := R * R) (by omega) hRR).mpr (by omega)) (Int32.not_le.mpr q103))
        rw [e9] at k
        exact k
      · refine s_iconst (v := 1) hP t116_106 (by decide) ?_
        refine s_goto hP t116_107 ?_
        refine s_ireturn hP t116_129 rfl rfl ?_
        have e37 : ¬ s = 101 := fun h => q37 (by rw [h]; rfl)
        have e81 : s = 98 := (nI_inj (by omega) (by decide)).mp q81
        rw [mt_b l hl R hR, nI_add] at q103
        have hbb : (R - min l R) * (R - min l R) ≤ R * R := Nat.mul_le_mul (Nat.sub_le _ _) (Nat.sub_le _ _)
        have e9 : decide (D1 + D2 ≤ mr_sq s R l) = true := decide_eq_true (by
          rw [mr_sq, if_neg e37, if_neg (by omega)]
          exact (by have := (nI_leI (a := D1 + D2 + (R - min l R) * (R - min l R)) (b := R * R) (by omega) hRR).mp (Int32.not_lt.mp q103); omega))
        rw [e9] at k
        exact k
  refine s_iload_n hP t116_0 rfl ?_
  refine s_iload_n hP t116_1 rfl ?_
  refine s_imul hP t116_2 ?_
  rw [h1]
  refine s_iload_n hP t116_3 rfl ?_
  refine s_iload_n hP t116_4 rfl ?_
  refine s_imul hP t116_5 ?_
  rw [h2]
  refine s_iadd hP t116_6 ?_
  rw [nI_add]
  refine s_istore_4 hP t116_7 (by exact rfl) ?_
  refine s_aload_n hP t116_9 rfl ?_
  refine s_getfield hP t116_10 rfl rfl ?_
  refine s_aload_n hP t116_13 rfl ?_
  refine s_getfield hP t116_14 rfl rfl ?_
  refine s_iaload hP t116_17 rfl (by show vp_in (ms 19) 12; rw [hc]; exact vp_in_nI (by omega) (by decide)) ?_
  rw [show (ms 19).toNatClampNeg = c by rw [hc]; exact nI_clamp (by omega)]
  rw [hr]
  refine s_istore_5 hP t116_18 (by exact rfl) ?_
  refine s_iload_n hP t116_20 rfl ?_
  refine s_if_ge hP t116_21 (fun q21 => ?_) (fun q21 => ?_)
  · refine s_aload_n hP t116_26 rfl ?_
    refine s_getfield hP t116_27 rfl rfl ?_
    refine s_aload_n hP t116_30 rfl ?_
    refine s_getfield hP t116_31 rfl rfl ?_
    refine s_caload hP t116_34 rfl (by show vp_in (ms 19) 12; rw [hc]; exact vp_in_nI (by omega) (by decide)) ?_
    rw [show (ms 19).toNatClampNeg = c by rw [hc]; exact nI_clamp (by omega)]
    rw [hs]
    refine s_bipush (v := 101) hP t116_35 (by decide) ?_
    refine s_icmp_ne hP t116_37 (fun q37 => ?_) (fun q37 => ?_)
    · refine s_iload_n hP t116_56 rfl ?_
      refine s_iload hP t116_57 rfl ?_
      refine s_icmp_ge hP t116_59 (fun q59 => ?_) (fun q59 => ?_)
      · refine s_iload hP t116_66 rfl ?_
        refine s_istore_6 hP t116_68 (by exact rfl) ?_
        exact tail70 q37 (by rw [← mt_less l hl R hR, if_neg (Int32.not_lt.mpr q59)])
      · refine s_iload_n hP t116_62 rfl ?_
        refine s_goto hP t116_63 ?_
        refine s_istore_6 hP t116_68 (by exact rfl) ?_
        exact tail70 q37 (by rw [← mt_less l hl R hR, if_pos (Int32.not_le.mp q59)])
    · refine s_iload hP t116_40 rfl ?_
      refine s_iload hP t116_42 rfl ?_
      refine s_iload hP t116_44 rfl ?_
      refine s_imul hP t116_46 ?_
      rw [pk_mul]
      refine s_icmp_gt hP t116_47 (fun q47 => ?_) (fun q47 => ?_)
      · refine s_iconst (v := 0) hP t116_54 (by decide) ?_
        refine s_ireturn hP t116_55 rfl rfl ?_
        have e37 : s = 101 := (nI_inj (by omega) (by decide)).mp q37
        have e9 : decide (D1 + D2 ≤ mr_sq s R l) = false := decide_eq_false (by
          rw [mr_sq, if_pos e37]
          exact fun h => absurd ((nI_leI (a := D1 + D2) (b := R * R) (by omega) hRR).mpr h) (Int32.not_le.mpr q47))
        rw [e9] at k
        exact k
      · refine s_iconst (v := 1) hP t116_50 (by decide) ?_
        refine s_goto hP t116_51 ?_
        refine s_ireturn hP t116_55 rfl rfl ?_
        have e37 : s = 101 := (nI_inj (by omega) (by decide)).mp q37
        have e9 : decide (D1 + D2 ≤ mr_sq s R l) = true := decide_eq_true (by
          rw [mr_sq, if_pos e37]
          exact (nI_leI (a := D1 + D2) (b := R * R) (by omega) hRR).mp (Int32.not_lt.mp q47))
        rw [e9] at k
        exact k
  · exact absurd (nI_pos' (n := l) (by omega)) (by rw [Int32.not_le]; exact Int32.not_le.mp q21)
theorem sp116 {d : Nat} {K : am_K} {ha : Nat → Nat → Int32} {hz : Int32} {a1 : Nat → Nat → Int32} {s1 : Nat → Int32} {t1 : UInt32} {a2 : Nat → Nat → Int32} {s2 : Nat → Int32} {t2 : UInt32} {al : Int32} {ma : Nat → Nat → Int32} {ms : Nat → Int32} {mt : UInt32} {ol : Nat → Int64} {od : Nat → UInt64} {c s R : Nat} (hc : ms 19 = nI c) (hc9 : c < 12) (hs : ma 0 c = nI s) (hr : ma 2 c = nI R) (hsh : s = 101 ∨ s = 98 ∨ s = 118) (hR : R < 4) {X Y Z q : Nat} (hX : X < 16) (hY : Y < 12) (hZ : Z < 10) (hq : q < 1152) (k : K (some (.int (am_b (mr_re s R X Y Z q)))) (am_W ha hz a1 s1 t1 a2 s2 t2 al ma ms mt ol od)) : am_Run (d + 1) 116 [.ref 39, .int (nI (q % 16) - nI X), .int (nI (q / 16 % 12) - nI Y), .int (nI (q / 192) - nI Z)] (am_W ha hz a1 s1 t1 a2 s2 t2 al ma ms mt ol od) K := by
  have h1 := mt_d16 (q % 16) (by omega) X hX
  have h2 := mt_d16 (q / 16 % 12) (by omega) Y (by omega)
  have h3 := mt_d16b (q % 16) (by omega) X hX
  have h4 := mt_d16b (q / 16 % 12) (by omega) Y (by omega)
  obtain ⟨h5, h6⟩ := mt_hneg (q / 192) (by omega) Z hZ
  by_cases hz : q / 192 < Z
  · refine sp116n hc hc9 hs hr hsh hR h1 h2 (h5.mpr hz) ?_
    rw [mr_re_far (Or.inl hz)] at k
    exact k
  · rw [h6 (by omega)]
    refine sp116p hc hc9 hs hr hsh hR h1 h2 (by omega) (by omega) ?_
    rw [mr_re, decide_eq_true (show Z ≤ q / 192 by omega), Bool.true_and] at k
    exact k
set_option maxHeartbeats 2000000 in
theorem sp117 {d : Nat} {K : am_K} {ha : Nat → Nat → Int32} {hz : Int32} {a1 : Nat → Nat → Int32} {s1 : Nat → Int32} {t1 : UInt32} {a2 : Nat → Nat → Int32} {s2 : Nat → Int32} {t2 : UInt32} {al : Int32} {ma : Nat → Nat → Int32} {ms : Nat → Int32} {mt : UInt32} {ol : Nat → Int64} {od : Nat → UInt64} {S T : Nat → Bool} {bs bf : Bool} (hS : ∀ q, q < 1152 → ma 14 q = am_b (!S q)) (hT : ∀ q, q < 1152 → ma 13 q = am_b (T q)) {c s R : Nat} (hc : ms 19 = nI c) (hc9 : c < 12) (hs : ma 0 c = nI s) (hr : ma 2 c = nI R) (hsh : s = 101 ∨ s = 98 ∨ s = 118) (hR : R < 4) {X Y Z : Nat} (hX : X < 16) (hY : Y < 12) (hZ : Z < 10) (k : K (some (.int (nI (mr_cnt 1152 (fun q => ((bs && S q) || (bf && T q)) && mr_re s R X Y Z q))))) (am_W ha hz a1 s1 t1 a2 s2 t2 al ma ms mt ol od)) : am_Run (d + 2) 117 [.ref 39, .int (nI X), .int (nI Y), .int (nI Z), .int (am_b bs), .int (am_b bf)] (am_W ha hz a1 s1 t1 a2 s2 t2 al ma ms mt ol od) K := by
  refine ⟨rfl, fun P hm hP => ?_⟩
  show P 0 [some (.ref 39), some (.int (nI X)), some (.int (nI Y)), some (.int (nI Z)), some (.int (am_b bs)), some (.int (am_b bf)), none, none, none] [] _ 0 0
  have loop : ∀ (n i : Nat), i ≤ 1152 → 1152 + 1 ≤ i + n → P 6 [some (.ref 39), some (.int (nI X)), some (.int (nI Y)), some (.int (nI Z)), some (.int (am_b bs)), some (.int (am_b bf)), some (.int (nI (mr_cnt i (fun q => ((bs && S q) || (bf && T q)) && mr_re s R X Y Z q)))), some (.int (nI i)), none] [] (am_W ha hz a1 s1 t1 a2 s2 t2 al ma ms mt ol od) 0 0 := by
    intro n
    induction n with
    | zero => intro i h3 h4; omega
    | succ n ih =>
      intro i h3 h4
      refine s_iload hP t117_6 rfl ?_
      refine s_sipush (v := 1152) hP t117_8 (by decide) ?_
      refine s_icmp_ge hP t117_11 (fun q11 => ?_) (fun q11 => ?_)
      · have e9 : 1152 ≤ i := mi_leN (by decide) (by omega) q11
        refine s_iload hP t117_111 rfl ?_
        refine s_ireturn hP t117_113 rfl rfl ?_
        obtain rfl : i = 1152 := by omega
        exact k
      · have e9 : i < 1152 := mi_nleN (a := 1152) (by decide) (by omega) q11
        refine s_aload_n hP t117_14 rfl ?_
        refine s_getfield hP t117_15 rfl rfl ?_
        refine s_if_lt hP t117_18 (fun q18 => ?_) (fun q18 => ?_)
        · exact absurd (show nI c < 0 by rw [← hc]; exact q18) (fun h => absurd (nI_pos' (n := c) (by omega)) (Int32.not_le.mpr h))
        · refine s_iload hP t117_21 rfl ?_
          refine s_zeq hP t117_23 (fun q23 => ?_) (fun q23 => ?_)
          · refine s_iload hP t117_36 rfl ?_
            refine s_zeq hP t117_38 (fun q38 => ?_) (fun q38 => ?_)
            · refine s_iconst (v := 0) hP t117_55 (by decide) ?_
              refine s_istore_8 hP t117_56 (by exact rfl) ?_
              refine s_iload hP t117_58 rfl ?_
              refine s_iload hP t117_60 rfl ?_
              refine s_if_eq hP t117_62 (fun q62 => ?_) (fun q62 => ?_)
              · refine s_iconst (v := 0) hP t117_101 (by decide) ?_
                refine s_iadd hP t117_102 ?_
                refine s_istore_6 hP t117_103 (by exact rfl) ?_
                refine s_iinc_7 (v := 1) hP t117_105 (by decide) (by exact rfl) ?_
                refine s_goto hP t117_108 ?_
                have e94 : (((bs && S i) || (bf && T i)) && mr_re s R X Y Z i) = false := by rw [q23, Bool.false_and, Bool.false_or, q38, Bool.false_and, Bool.false_and]
                rw [show nI (mr_cnt i (fun q => ((bs && S q) || (bf && T q)) && mr_re s R X Y Z q)) + 0 = nI (mr_cnt (i + 1) (fun q => ((bs && S q) || (bf && T q)) && mr_re s R X Y Z q)) by rw [mr_cnt, e94]; exact nI_add _ 0, nI_1]
                refine hm _ _ _ _ _ _ _ (by repeat (first | exact am_le_nil | apply am_le_cons | apply am_le_none)) (ih (i + 1) (by omega) (by omega))
              · exact absurd rfl q62
            · refine s_aload_n hP t117_41 rfl ?_
              refine s_getfield hP t117_42 rfl rfl ?_
              refine s_iload hP t117_45 rfl ?_
              refine s_baload hP t117_47 rfl (vp_in_nI e9 (by decide)) ?_
              rw [nI_clamp (by omega), hT _ e9]
              refine s_zeq hP t117_48 (fun q48 => ?_) (fun q48 => ?_)
              · refine s_iconst (v := 0) hP t117_55 (by decide) ?_
                refine s_istore_8 hP t117_56 (by exact rfl) ?_
                refine s_iload hP t117_58 rfl ?_
                refine s_iload hP t117_60 rfl ?_
                refine s_if_eq hP t117_62 (fun q62 => ?_) (fun q62 => ?_)
                · refine s_iconst (v := 0) hP t117_101 (by decide) ?_
                  refine s_iadd hP t117_102 ?_
                  refine s_istore_6 hP t117_103 (by exact rfl) ?_
                  refine s_iinc_7 (v := 1) hP t117_105 (by decide) (by exact rfl) ?_
                  refine s_goto hP t117_108 ?_
                  have e94 : (((bs && S i) || (bf && T i)) && mr_re s R X Y Z i) = false := by rw [q23, Bool.false_and, Bool.false_or, q48, Bool.and_false, Bool.false_and]
                  rw [show nI (mr_cnt i (fun q => ((bs && S q) || (bf && T q)) && mr_re s R X Y Z q)) + 0 = nI (mr_cnt (i + 1) (fun q => ((bs && S q) || (bf && T q)) && mr_re s R X Y Z q)) by rw [mr_cnt, e94]; exact nI_add _ 0, nI_1]
                  refine hm _ _ _ _ _ _ _ (by repeat (first | exact am_le_nil | apply am_le_cons | apply am_le_none)) (ih (i + 1) (by omega) (by omega))
                · exact absurd rfl q62
              · refine s_iconst (v := 1) hP t117_51 (by decide) ?_
                refine s_goto hP t117_52 ?_
                refine s_istore_8 hP t117_56 (by exact rfl) ?_
                refine s_iload hP t117_58 rfl ?_
                refine s_iload hP t117_60 rfl ?_
                refine s_if_eq hP t117_62 (fun q62 => ?_) (fun q62 => ?_)
                · exact absurd q62 (by decide)
                · refine s_aload_n hP t117_65 rfl ?_
                  obtain ⟨m1, m2, m3⟩ := mt_q i e9
                  refine s_iload hP t117_66 rfl ?_
                  refine s_bipush (v := 16) hP t117_68 (by decide) ?_
                  refine s_irem hP t117_70 (by decide) ?_
                  refine s_iload_n hP t117_71 rfl ?_
                  refine s_isub hP t117_72 ?_
                  refine s_iload hP t117_73 rfl ?_
                  refine s_bipush (v := 16) hP t117_75 (by decide) ?_
                  refine s_idiv hP t117_77 (by decide) ?_
                  refine s_bipush (v := 12) hP t117_78 (by decide) ?_
                  refine s_irem hP t117_80 (by decide) ?_
                  refine s_iload_n hP t117_81 rfl ?_
                  refine s_isub hP t117_82 ?_
                  refine s_iload hP t117_83 rfl ?_
                  refine s_sipush (v := 192) hP t117_85 (by decide) ?_
                  refine s_idiv hP t117_88 (by decide) ?_
                  refine s_iload_n hP t117_89 rfl ?_
                  refine s_isub hP t117_90 ?_
                  refine s_invokevirtual (bc' := 0) (bs' := 0) hP t117_91 rfl rfl rfl rfl rfl ?_
                  rw [m1, m2, m3]
                  refine sp116 hc hc9 hs hr hsh hR hX hY hZ e9 ?_
                  refine s_zeq hP t117_94 (fun q94 => ?_) (fun q94 => ?_)
                  · refine s_iconst (v := 0) hP t117_101 (by decide) ?_
                    refine s_iadd hP t117_102 ?_
                    refine s_istore_6 hP t117_103 (by exact rfl) ?_
                    refine s_iinc_7 (v := 1) hP t117_105 (by decide) (by exact rfl) ?_
                    refine s_goto hP t117_108 ?_
                    have e62 : ((bs && S i) || (bf && T i)) = true := by rw [q38, q48]; exact Bool.or_true _
                    have e94 : (((bs && S i) || (bf && T i)) && mr_re s R X Y Z i) = false := by rw [q94]; exact Bool.and_false _
                    rw [show nI (mr_cnt i (fun q => ((bs && S q) || (bf && T q)) && mr_re s R X Y Z q)) + 0 = nI (mr_cnt (i + 1) (fun q => ((bs && S q) || (bf && T q)) && mr_re s R X Y Z q)) by rw [mr_cnt, e94]; exact nI_add _ 0, nI_1]
                    refine hm _ _ _ _ _ _ _ (by repeat (first | exact am_le_nil | apply am_le_cons | apply am_le_none)) (ih (i + 1) (by omega) (by omega))
                  · refine s_iconst (v := 1) hP t117_97 (by decide) ?_
                    refine s_goto hP t117_98 ?_
                    refine s_iadd hP t117_102 ?_
                    refine s_istore_6 hP t117_103 (by exact rfl) ?_
                    refine s_iinc_7 (v := 1) hP t117_105 (by decide) (by exact rfl) ?_
                    refine s_goto hP t117_108 ?_
                    have e62 : ((bs && S i) || (bf && T i)) = true := by rw [q38, q48]; exact Bool.or_true _
                    have e94 : (((bs && S i) || (bf && T i)) && mr_re s R X Y Z i) = true := by rw [e62, q94]; rfl
                    rw [show nI (mr_cnt i (fun q => ((bs && S q) || (bf && T q)) && mr_re s R X Y Z q)) + 1 = nI (mr_cnt (i + 1) (fun q => ((bs && S q) || (bf && T q)) && mr_re s R X Y Z q)) by rw [nI_1, mr_cnt, e94]; rfl, nI_1]
                    refine hm _ _ _ _ _ _ _ (by repeat (first | exact am_le_nil | apply am_le_cons | apply am_le_none)) (ih (i + 1) (by omega) (by omega))
          · refine s_aload_n hP t117_26 rfl ?_
            refine s_getfield hP t117_27 rfl rfl ?_
            refine s_iload hP t117_30 rfl ?_
            refine s_baload hP t117_32 rfl (vp_in_nI e9 (by decide)) ?_
            rw [nI_clamp (by omega), hS _ e9]
            refine s_zeq hP t117_33 (fun q33 => ?_) (fun q33 => ?_)
            · refine s_iconst (v := 1) hP t117_51 (by decide) ?_
              refine s_goto hP t117_52 ?_
              refine s_istore_8 hP t117_56 (by exact rfl) ?_
              refine s_iload hP t117_58 rfl ?_
              refine s_iload hP t117_60 rfl ?_
              refine s_if_eq hP t117_62 (fun q62 => ?_) (fun q62 => ?_)
              · exact absurd q62 (by decide)
              · refine s_aload_n hP t117_65 rfl ?_
                obtain ⟨m1, m2, m3⟩ := mt_q i e9
                refine s_iload hP t117_66 rfl ?_
                refine s_bipush (v := 16) hP t117_68 (by decide) ?_
                refine s_irem hP t117_70 (by decide) ?_
                refine s_iload_n hP t117_71 rfl ?_
                refine s_isub hP t117_72 ?_
                refine s_iload hP t117_73 rfl ?_
                refine s_bipush (v := 16) hP t117_75 (by decide) ?_
                refine s_idiv hP t117_77 (by decide) ?_
                refine s_bipush (v := 12) hP t117_78 (by decide) ?_
                refine s_irem hP t117_80 (by decide) ?_
                refine s_iload_n hP t117_81 rfl ?_
                refine s_isub hP t117_82 ?_
                refine s_iload hP t117_83 rfl ?_
                refine s_sipush (v := 192) hP t117_85 (by decide) ?_
                refine s_idiv hP t117_88 (by decide) ?_
                refine s_iload_n hP t117_89 rfl ?_
                refine s_isub hP t117_90 ?_
                refine s_invokevirtual (bc' := 0) (bs' := 0) hP t117_91 rfl rfl rfl rfl rfl ?_
                rw [m1, m2, m3]
                refine sp116 hc hc9 hs hr hsh hR hX hY hZ e9 ?_
                refine s_zeq hP t117_94 (fun q94 => ?_) (fun q94 => ?_)
                · refine s_iconst (v := 0) hP t117_101 (by decide) ?_
                  refine s_iadd hP t117_102 ?_
                  refine s_istore_6 hP t117_103 (by exact rfl) ?_
                  refine s_iinc_7 (v := 1) hP t117_105 (by decide) (by exact rfl) ?_
                  refine s_goto hP t117_108 ?_
                  have e62 : ((bs && S i) || (bf && T i)) = true := by rw [q23, mt_nt q33]; rfl
                  have e94 : (((bs && S i) || (bf && T i)) && mr_re s R X Y Z i) = false := by rw [q94]; exact Bool.and_false _
                  rw [show nI (mr_cnt i (fun q => ((bs && S q) || (bf && T q)) && mr_re s R X Y Z q)) + 0 = nI (mr_cnt (i + 1) (fun q => ((bs && S q) || (bf && T q)) && mr_re s R X Y Z q)) by rw [mr_cnt, e94]; exact nI_add _ 0, nI_1]
                  refine hm _ _ _ _ _ _ _ (by repeat (first | exact am_le_nil | apply am_le_cons | apply am_le_none)) (ih (i + 1) (by omega) (by omega))
                · refine s_iconst (v := 1) hP t117_97 (by decide) ?_
                  refine s_goto hP t117_98 ?_
                  refine s_iadd hP t117_102 ?_
                  refine s_istore_6 hP t117_103 (by exact rfl) ?_
                  refine s_iinc_7 (v := 1) hP t117_105 (by decide) (by exact rfl) ?_
                  refine s_goto hP t117_108 ?_
                  have e62 : ((bs && S i) || (bf && T i)) = true := by rw [q23, mt_nt q33]; rfl
                  have e94 : (((bs && S i) || (bf && T i)) && mr_re s R X Y Z i) = true := by rw [e62, q94]; rfl
                  rw [show nI (mr_cnt i (fun q => ((bs && S q) || (bf && T q)) && mr_re s R X Y Z q)) + 1 = nI (mr_cnt (i + 1) (fun q => ((bs && S q) || (bf && T q)) && mr_re s R X Y Z q)) by rw [nI_1, mr_cnt, e94]; rfl, nI_1]
                  refine hm _ _ _ _ _ _ _ (by repeat (first | exact am_le_nil | apply am_le_cons | apply am_le_none)) (ih (i + 1) (by omega) (by omega))
            · refine s_iload hP t117_36 rfl ?_
              refine s_zeq hP t117_38 (fun q38 => ?_) (fun q38 => ?_)
              · refine s_iconst (v := 0) hP t117_55 (by decide) ?_
                refine s_istore_8 hP t117_56 (by exact rfl) ?_
                refine s_iload hP t117_58 rfl ?_
                refine s_iload hP t117_60 rfl ?_
                refine s_if_eq hP t117_62 (fun q62 => ?_) (fun q62 => ?_)
                · refine s_iconst (v := 0) hP t117_101 (by decide) ?_
                  refine s_iadd hP t117_102 ?_
                  refine s_istore_6 hP t117_103 (by exact rfl) ?_
                  refine s_iinc_7 (v := 1) hP t117_105 (by decide) (by exact rfl) ?_
                  refine s_goto hP t117_108 ?_
                  have e94 : (((bs && S i) || (bf && T i)) && mr_re s R X Y Z i) = false := by rw [mt_nf q33, Bool.and_false, Bool.false_or, q38, Bool.false_and, Bool.false_and]
                  rw [show nI (mr_cnt i (fun q => ((bs && S q) || (bf && T q)) && mr_re s R X Y Z q)) + 0 = nI (mr_cnt (i + 1) (fun q => ((bs && S q) || (bf && T q)) && mr_re s R X Y Z q)) by rw [mr_cnt, e94]; exact nI_add _ 0, nI_1]
                  refine hm _ _ _ _ _ _ _ (by repeat (first | exact am_le_nil | apply am_le_cons | apply am_le_none)) (ih (i + 1) (by omega) (by omega))
                · exact absurd rfl q62
              · refine s_aload_n hP t117_41 rfl ?_
                refine s_getfield hP t117_42 rfl rfl ?_
                refine s_iload hP t117_45 rfl ?_
                refine s_baload hP t117_47 rfl (vp_in_nI e9 (by decide)) ?_
                rw [nI_clamp (by omega), hT _ e9]
                refine s_zeq hP t117_48 (fun q48 => ?_) (fun q48 => ?_)
                · refine s_iconst (v := 0) hP t117_55 (by decide) ?_
                  refine s_istore_8 hP t117_56 (by exact rfl) ?_
                  refine s_iload hP t117_58 rfl ?_
                  refine s_iload hP t117_60 rfl ?_
                  refine s_if_eq hP t117_62 (fun q62 => ?_) (fun q62 => ?_)
                  · refine s_iconst (v := 0) hP t117_101 (by decide) ?_
                    refine s_iadd hP t117_102 ?_
                    refine s_istore_6 hP t117_103 (by exact rfl) ?_
                    refine s_iinc_7 (v := 1) hP t117_105 (by decide) (by exact rfl) ?_
                    refine s_goto hP t117_108 ?_
                    have e94 : (((bs && S i) || (bf && T i)) && mr_re s R X Y Z i) = false := by rw [mt_nf q33, Bool.and_false, Bool.false_or, q48, Bool.and_false, Bool.false_and]
                    rw [show nI (mr_cnt i (fun q => ((bs && S q) || (bf && T q)) && mr_re s R X Y Z q)) + 0 = nI (mr_cnt (i + 1) (fun q => ((bs && S q) || (bf && T q)) && mr_re s R X Y Z q)) by rw [mr_cnt, e94]; exact nI_add _ 0, nI_1]
                    refine hm _ _ _ _ _ _ _ (by repeat (first | exact am_le_nil | apply am_le_cons | apply am_le_none)) (ih (i + 1) (by omega) (by omega))
                  · exact absurd rfl q62
                · refine s_iconst (v := 1) hP t117_51 (by decide) ?_
                  refine s_goto hP t117_52 ?_
                  refine s_istore_8 hP t117_56 (by exact rfl) ?_
                  refine s_iload hP t117_58 rfl ?_
                  refine s_iload hP t117_60 rfl ?_
                  refine s_if_eq hP t117_62 (fun q62 => ?_) (fun q62 => ?_)
                  · exact absurd q62 (by decide)
                  · refine s_aload_n hP t117_65 rfl ?_
                    obtain ⟨m1, m2, m3⟩ := mt_q i e9
                    refine s_iload hP t117_66 rfl ?_
                    refine s_bipush (v := 16) hP t117_68 (by decide) ?_
                    refine s_irem hP t117_70 (by decide) ?_
                    refine s_iload_n hP t117_71 rfl ?_
                    refine s_isub hP t117_72 ?_
                    refine s_iload hP t117_73 rfl ?_
                    refine s_bipush (v := 16) hP t117_75 (by decide) ?_
                    refine s_idiv hP t117_77 (by decide) ?_
                    refine s_bipush (v := 12) hP t117_78 (by decide) ?_
                    refine s_irem hP t117_80 (by decide) ?_
                    refine s_iload_n hP t117_81 rfl ?_
                    refine s_isub hP t117_82 ?_
                    refine s_iload hP t117_83 rfl ?_
                    refine s_sipush (v := 192) hP t117_85 (by decide) ?_
                    refine s_idiv hP t117_88 (by decide) ?_
                    refine s_iload_n hP t117_89 rfl ?_
                    refine s_isub hP t117_90 ?_
                    refine s_invokevirtual (bc' := 0) (bs' := 0) hP t117_91 rfl rfl rfl rfl rfl ?_
                    rw [m1, m2, m3]
                    refine sp116 hc hc9 hs hr hsh hR hX hY hZ e9 ?_
                    refine s_zeq hP t117_94 (fun q94 => ?_) (fun q94 => ?_)
                    · refine s_iconst (v := 0) hP t117_101 (by decide) ?_
                      refine s_iadd hP t117_102 ?_
                      refine s_istore_6 hP t117_103 (by exact rfl) ?_
                      refine s_iinc_7 (v := 1) hP t117_105 (by decide) (by exact rfl) ?_
                      refine s_goto hP t117_108 ?_
                      have e62 : ((bs && S i) || (bf && T i)) = true := by rw [q38, q48]; exact Bool.or_true _
                      have e94 : (((bs && S i) || (bf && T i)) && mr_re s R X Y Z i) = false := by rw [q94]; exact Bool.and_false _
                      rw [show nI (mr_cnt i (fun q => ((bs && S q) || (bf && T q)) && mr_re s R X Y Z q)) + 0 = nI (mr_cnt (i + 1) (fun q => ((bs && S q) || (bf && T q)) && mr_re s R X Y Z q)) by rw [mr_cnt, e94]; exact nI_add _ 0, nI_1]
                      refine hm _ _ _ _ _ _ _ (by repeat (first | exact am_le_nil | apply am_le_cons | apply am_le_none)) (ih (i + 1) (by omega) (by omega))
                    · refine s_iconst (v := 1) hP t117_97 (by decide) ?_
                      refine s_goto hP t117_98 ?_
                      refine s_iadd hP t117_102 ?_
                      refine s_istore_6 hP t117_103 (by exact rfl) ?_
                      refine s_iinc_7 (v := 1) hP t117_105 (by decide) (by exact rfl) ?_
                      refine s_goto hP t117_108 ?_
                      have e62 : ((bs && S i) || (bf && T i)) = true := by rw [q38, q48]; exact Bool.or_true _
                      have e94 : (((bs && S i) || (bf && T i)) && mr_re s R X Y Z i) = true := by rw [e62, q94]; rfl
                      rw [show nI (mr_cnt i (fun q => ((bs && S q) || (bf && T q)) && mr_re s R X Y Z q)) + 1 = nI (mr_cnt (i + 1) (fun q => ((bs && S q) || (bf && T q)) && mr_re s R X Y Z q)) by rw [nI_1, mr_cnt, e94]; rfl, nI_1]
                      refine hm _ _ _ _ _ _ _ (by repeat (first | exact am_le_nil | apply am_le_cons | apply am_le_none)) (ih (i + 1) (by omega) (by omega))
  refine s_iconst (v := 0) hP t117_0 (by decide) ?_
  refine s_istore_6 hP t117_1 (by exact rfl) ?_
  refine s_iconst (v := 0) hP t117_3 (by decide) ?_
  refine s_istore_7 hP t117_4 (by exact rfl) ?_
  exact loop 1153 0 (by omega) (by omega)
set_option maxHeartbeats 1000000 in
theorem sp117n {d : Nat} {K : am_K} {ha : Nat → Nat → Int32} {hz : Int32} {a1 : Nat → Nat → Int32} {s1 : Nat → Int32} {t1 : UInt32} {a2 : Nat → Nat → Int32} {s2 : Nat → Int32} {t2 : UInt32} {al : Int32} {ma : Nat → Nat → Int32} {ms : Nat → Int32} {mt : UInt32} {ol : Nat → Int64} {od : Nat → UInt64} {X Y Z : Nat} {bs bf : Bool} (hc : ms 19 = -1) (k : K (some (.int 0)) (am_W ha hz a1 s1 t1 a2 s2 t2 al ma ms mt ol od)) : am_Run (d + 1) 117 [.ref 39, .int (nI X), .int (nI Y), .int (nI Z), .int (am_b bs), .int (am_b bf)] (am_W ha hz a1 s1 t1 a2 s2 t2 al ma ms mt ol od) K := by
  refine ⟨rfl, fun P hm hP => ?_⟩
  show P 0 [some (.ref 39), some (.int (nI X)), some (.int (nI Y)), some (.int (nI Z)), some (.int (am_b bs)), some (.int (am_b bf)), none, none, none] [] _ 0 0
  refine s_iconst (v := 0) hP t117_0 (by decide) ?_
  refine s_istore_6 hP t117_1 (by exact rfl) ?_
  refine s_iconst (v := 0) hP t117_3 (by decide) ?_
  refine s_istore_7 hP t117_4 (by exact rfl) ?_
  refine s_iload hP t117_6 rfl ?_
  refine s_sipush (v := 1152) hP t117_8 (by decide) ?_
  refine s_icmp_ge hP t117_11 (fun q11 => ?_) (fun q11 => ?_)
  · exact absurd q11 (by decide)
  · refine s_aload_n hP t117_14 rfl ?_
    refine s_getfield hP t117_15 rfl rfl ?_
    refine s_if_lt hP t117_18 (fun q18 => ?_) (fun q18 => ?_)
    · refine s_iload hP t117_111 rfl ?_
      refine s_ireturn hP t117_113 rfl rfl ?_
      exact k
    · exact absurd (show ms 19 < 0 by rw [hc]; decide) q18
/-- what is taken below a cell -/
def mt_f (re : Nat → Bool) (n : Nat) (f : Nat → Int32) : Nat → Int32 := fun q => cond (decide (q < n) && re q) 1 (f q)
theorem mt_f_0 {re : Nat → Bool} {f : Nat → Int32} : mt_f re 0 f = f := by
  funext q
  rfl
theorem mt_f_no {re : Nat → Bool} {n : Nat} {f : Nat → Int32} (h : re n = false) : mt_f re (n + 1) f = mt_f re n f := by
  funext q
  simp only [mt_f]
  by_cases hq : q = n
  · rw [hq, h, Bool.and_false, Bool.and_false]
  · rw [show decide (q < n + 1) = decide (q < n) from decide_eq_decide.mpr (by omega)]
theorem mt_f_yes {re : Nat → Bool} {n : Nat} {f : Nat → Int32} (h : re n = true) : upd (mt_f re n f) n 1 = mt_f re (n + 1) f := by
  funext q
  by_cases hq : q = n
  · rw [hq, show upd (mt_f re n f) n 1 n = 1 from pk_us]
    simp only [mt_f]
    rw [h, decide_eq_true (show n < n + 1 by omega)]
    rfl
  · rw [show upd (mt_f re n f) n 1 q = mt_f re n f q from pk_un hq]
    simp only [mt_f]
    rw [show decide (q < n + 1) = decide (q < n) from decide_eq_decide.mpr (by omega)]
theorem mt_f_at {re : Nat → Bool} {n : Nat} {f : Nat → Int32} : mt_f re n f n = f n := by
  simp only [mt_f]
  rw [decide_eq_false (show ¬ n < n by omega)]
  rfl
theorem upd_upd {f : Nat → Int32} {k : Nat} {x y : Int32} : upd (upd f k x) k y = upd f k y := by
  funext j
  by_cases h : j = k
  · rw [h, show upd _ k y k = y from pk_us, show upd f k y k = y from pk_us]
  · rw [show upd _ k y j = _ from pk_un h, show upd f k x j = _ from pk_un h, show upd f k y j = _ from pk_un h]
theorem upd_self {f : Nat → Int32} {k : Nat} : upd f k (f k) = f := by
  funext j
  by_cases h : j = k
  · rw [h]; exact pk_us
  · exact pk_un h
/-- the model's cells and uses behind a taking -/
def mt_tk (ma : Nat → Nat → Int32) (c : Nat) (re : Nat → Bool) (n : Nat) : Nat → Nat → Int32 := am_u2 (am_u2 ma 14 (mt_f re n (ma 14))) 4 (upd (ma 4) c (ma 4 c + nI (mr_cnt n re)))
theorem mt_tk_at {ma : Nat → Nat → Int32} {c n : Nat} {re : Nat → Bool} : mt_tk ma c re n 14 n = ma 14 n := by
  show mt_f re n (ma 14) n = _
  exact mt_f_at
theorem mt_tk_0 {ma : Nat → Nat → Int32} {c : Nat} {re : Nat → Bool} : mt_tk ma c re 0 = ma := by
  funext j
  simp only [mt_tk, mr_cnt, mt_f_0, am_u2]
  rw [show nI 0 = 0 from rfl, Int32.add_zero, upd_self]
  cases h4 : Nat.beq j 4
  · cases h1 : Nat.beq j 14
    · rfl
    · rw [Nat.eq_of_beq_eq_true h1]; rfl
  · rw [Nat.eq_of_beq_eq_true h4]; rfl
theorem mt_tk_no {ma : Nat → Nat → Int32} {c n : Nat} {re : Nat → Bool} (h : re n = false) : mt_tk ma c re (n + 1) = mt_tk ma c re n := by
  simp only [mt_tk, mr_cnt, mt_f_no h]
  rw [h]
  rfl
theorem mt_tk_yes {ma : Nat → Nat → Int32} {c n : Nat} {re : Nat → Bool} (h : re n = true) : am_u2 (am_u2 (mt_tk ma c re n) 14 (upd (mt_tk ma c re n 14) n 1)) 4 (upd (mt_tk ma c re n 4) c (mt_tk ma c re n 4 c + 1)) = mt_tk ma c re (n + 1) := by
  funext j
  have e14 : mt_tk ma c re n 14 = mt_f re n (ma 14) := rfl
  have e4 : mt_tk ma c re n 4 = upd (ma 4) c (ma 4 c + nI (mr_cnt n re)) := rfl
  rw [e14, e4, mt_f_yes h, upd_upd, show upd (ma 4) c (ma 4 c + nI (mr_cnt n re)) c = _ from pk_us]
  simp only [mt_tk, mr_cnt, am_u2, h]
  cases h4 : Nat.beq j 4
  · cases h1 : Nat.beq j 14
    · rfl
    · rfl
  · show upd (ma 4) c (ma 4 c + nI (mr_cnt n re) + 1) = upd (ma 4) c (ma 4 c + nI (mr_cnt n re + 1))
    rw [Int32.add_assoc, nI_1]
set_option maxHeartbeats 2000000 in
theorem sp118 {d : Nat} {K : am_K} {ha : Nat → Nat → Int32} {hz : Int32} {a1 : Nat → Nat → Int32} {s1 : Nat → Int32} {t1 : UInt32} {a2 : Nat → Nat → Int32} {s2 : Nat → Int32} {t2 : UInt32} {al : Int32} {ma : Nat → Nat → Int32} {ms : Nat → Int32} {mt : UInt32} {ol : Nat → Int64} {od : Nat → UInt64} {S : Nat → Bool} (hS : ∀ q, q < 1152 → ma 14 q = am_b (!S q)) {c s R : Nat} (hc : ms 19 = nI c) (hc9 : c < 12) (hs : ma 0 c = nI s) (hr : ma 2 c = nI R) (hsh : s = 101 ∨ s = 98 ∨ s = 118) (hR : R < 4) {X Y Z : Nat} (hX : X < 16) (hY : Y < 12) (hZ : Z < 10) (k : K none (am_W ha hz a1 s1 t1 a2 s2 t2 al (mt_tk ma c (fun q => S q && mr_re s R X Y Z q) 1152) ms mt ol od)) : am_Run (d + 2) 118 [.ref 39, .int (nI X), .int (nI Y), .int (nI Z)] (am_W ha hz a1 s1 t1 a2 s2 t2 al ma ms mt ol od) K := by
  refine ⟨rfl, fun P hm hP => ?_⟩
  show P 0 [some (.ref 39), some (.int (nI X)), some (.int (nI Y)), some (.int (nI Z)), none] [] _ 0 0
  have loop : ∀ (n i : Nat), i ≤ 1152 → 1152 + 1 ≤ i + n → P 3 [some (.ref 39), some (.int (nI X)), some (.int (nI Y)), some (.int (nI Z)), some (.int (nI i))] [] (am_W ha hz a1 s1 t1 a2 s2 t2 al (mt_tk ma c (fun q => S q && mr_re s R X Y Z q) i) ms mt ol od) 0 0 := by
    intro n
    induction n with
    | zero => intro i h3 h4; omega
    | succ n ih =>
      intro i h3 h4
      refine s_iload hP t118_3 rfl ?_
      refine s_sipush (v := 1152) hP t118_5 (by decide) ?_
      refine s_icmp_ge hP t118_8 (fun q8 => ?_) (fun q8 => ?_)
      · have e9 : 1152 ≤ i := mi_leN (by decide) (by omega) q8
        refine s_return_ hP t118_83 rfl ?_
        obtain rfl : i = 1152 := by omega
        exact k
      · have e9 : i < 1152 := mi_nleN (a := 1152) (by decide) (by omega) q8
        refine s_aload_n hP t118_11 rfl ?_
        refine s_getfield hP t118_12 rfl rfl ?_
        refine s_iload hP t118_15 rfl ?_
        refine s_baload hP t118_17 rfl (vp_in_nI e9 (by decide)) ?_
        rw [nI_clamp (by omega), show (mt_tk ma c (fun q => S q && mr_re s R X Y Z q) i) 14 i = am_b (!S i) from mt_tk_at.trans (hS _ e9)]
        refine s_zne hP t118_18 (fun q18 => ?_) (fun q18 => ?_)
        · refine s_iinc_4 (v := 1) hP t118_77 (by decide) (by exact rfl) ?_
          refine s_goto hP t118_80 ?_
          have e9i : (S i && mr_re s R X Y Z i) = false := by rw [mt_nf q18, Bool.false_and]
          rw [nI_1]
          have h9 := ih (i + 1) (by omega) (by omega)
          rw [mt_tk_no e9i] at h9
          exact h9
        · refine s_aload_n hP t118_21 rfl ?_
          obtain ⟨m1, m2, m3⟩ := mt_q i e9
          refine s_iload hP t118_22 rfl ?_
          refine s_bipush (v := 16) hP t118_24 (by decide) ?_
          refine s_irem hP t118_26 (by decide) ?_
          refine s_iload_n hP t118_27 rfl ?_
          refine s_isub hP t118_28 ?_
          refine s_iload hP t118_29 rfl ?_
          refine s_bipush (v := 16) hP t118_31 (by decide) ?_
          refine s_idiv hP t118_33 (by decide) ?_
          refine s_bipush (v := 12) hP t118_34 (by decide) ?_
          refine s_irem hP t118_36 (by decide) ?_
          refine s_iload_n hP t118_37 rfl ?_
          refine s_isub hP t118_38 ?_
          refine s_iload hP t118_39 rfl ?_
          refine s_sipush (v := 192) hP t118_41 (by decide) ?_
          refine s_idiv hP t118_44 (by decide) ?_
          refine s_iload_n hP t118_45 rfl ?_
          refine s_isub hP t118_46 ?_
          refine s_invokevirtual (bc' := 0) (bs' := 0) hP t118_47 rfl rfl rfl rfl rfl ?_
          rw [m1, m2, m3]
          refine sp116 (ma := (mt_tk ma c (fun q => S q && mr_re s R X Y Z q) i)) hc hc9 hs hr hsh hR hX hY hZ e9 ?_
          refine s_zne hP t118_50 (fun q50 => ?_) (fun q50 => ?_)
          · refine s_aload_n hP t118_56 rfl ?_
            refine s_getfield hP t118_57 rfl rfl ?_
            refine s_iload hP t118_60 rfl ?_
            refine s_iconst (v := 1) hP t118_62 (by decide) ?_
            refine s_bastore hP t118_63 rfl (vp_in_nI e9 (by decide)) ?_
            rw [nI_clamp (by omega), show vp_nar .boolean 1 = 1 from rfl]
            refine s_aload_n hP t118_64 rfl ?_
            refine s_getfield hP t118_65 rfl rfl ?_
            refine s_aload_n hP t118_68 rfl ?_
            refine s_getfield hP t118_69 rfl rfl ?_
            refine s_dup2 hP t118_72 rfl rfl ?_
            refine s_iaload hP t118_73 rfl (by show vp_in (ms 19) 12; rw [hc]; exact vp_in_nI (by omega) (by decide)) ?_
            rw [show (ms 19).toNatClampNeg = c by rw [hc]; exact nI_clamp (by omega)]
            refine s_iconst (v := 1) hP t118_74 (by decide) ?_
            refine s_iadd hP t118_75 ?_
            refine s_iastore hP t118_76 rfl (by show vp_in (ms 19) 12; rw [hc]; exact vp_in_nI (by omega) (by decide)) ?_
            rw [show (ms 19).toNatClampNeg = c by rw [hc]; exact nI_clamp (by omega)]
            suffices h77 : P 77 [some (.ref 39), some (.int (nI X)), some (.int (nI Y)), some (.int (nI Z)), some (.int (nI i))] [] (am_W ha hz a1 s1 t1 a2 s2 t2 al (am_u2 (am_u2 (mt_tk ma c (fun q => S q && mr_re s R X Y Z q) i) 14 (upd ((mt_tk ma c (fun q => S q && mr_re s R X Y Z q) i) 14) i 1)) 4 (upd ((mt_tk ma c (fun q => S q && mr_re s R X Y Z q) i) 4) c ((mt_tk ma c (fun q => S q && mr_re s R X Y Z q) i) 4 c + 1))) ms mt ol od) 0 0 from h77
            have e9i : (S i && mr_re s R X Y Z i) = true := by rw [mt_nt q18, q50]; rfl
            rw [mt_tk_yes e9i]
            refine s_iinc_4 (v := 1) hP t118_77 (by decide) (by exact rfl) ?_
            refine s_goto hP t118_80 ?_
            rw [nI_1]
            exact ih (i + 1) (by omega) (by omega)
          · refine s_goto hP t118_53 ?_
            refine s_iinc_4 (v := 1) hP t118_77 (by decide) (by exact rfl) ?_
            refine s_goto hP t118_80 ?_
            have e9i : (S i && mr_re s R X Y Z i) = false := by rw [q50, Bool.and_false]
            rw [nI_1]
            have h9 := ih (i + 1) (by omega) (by omega)
            rw [mt_tk_no e9i] at h9
            exact h9
  refine s_iconst (v := 0) hP t118_0 (by decide) ?_
  refine s_istore_4 hP t118_1 (by exact rfl) ?_
  have l9 := loop 1153 0 (by omega) (by omega)
  rw [mt_tk_0] at l9
  exact l9
