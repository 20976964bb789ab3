/-! THE MODEL: what one block does. (rows by gen/sp25.py) -/
def mt_p (ma : Nat → Nat → Int32) (A B j : Nat) : Bool := decide (ma 0 (4 * A + j) = ma 0 (4 * A + B)) && (decide (ma 2 (4 * A + j) = ma 2 (4 * A + B)) && !decide (ma 3 (4 * A + j) ≤ ma 4 (4 * A + j)))
theorem mt_meet {S T : Nat → Bool} {s R X Y Z : Nat} : nI (mr_cnt 1152 (fun q => ((true && S q) || (false && T q)) && mr_re s R X Y Z q)) ≤ 0 ↔ ¬ mx_meet S s R X Y Z := by
  rw [mg_cntp (by decide)]
  constructor
  · rintro h ⟨q, hq, h1, h2⟩
    have h3 := h q hq
    simp only [h1, h2, Bool.and_self, Bool.true_or] at h3
    exact absurd h3 (by decide)
  · intro h q hq
    cases h1 : S q
    · simp
    · cases h2 : mr_re s R X Y Z q
      · simp
      · exact absurd ⟨q, hq, h1, h2⟩ h
theorem mt_meet0 {S T : Nat → Bool} {s R X Y Z : Nat} : nI (mr_cnt 1152 (fun q => ((true && S q) || (false && T q)) && mr_re s R X Y Z q)) = 0 ↔ ¬ mx_meet S s R X Y Z := by
  rw [← mt_meet (T := T)]
  constructor
  · intro h; rw [h]; exact Int32.le_refl _
  · intro h
    have := mr_cnt_le 1152 (fun q => ((true && S q) || (false && T q)) && mr_re s R X Y Z q)
    have h2 := (nI_leI (b := 0) (by omega) (by decide)).mp h
    rw [show mr_cnt 1152 (fun q => ((true && S q) || (false && T q)) && mr_re s R X Y Z q) = 0 by omega]
    rfl
set_option maxHeartbeats 4000000 in
theorem sp127 {d : Nat} {K : am_K} {ha : Nat → Nat → Int32} {hz : Int32} {a1 : Nat → Nat → Int32} {s1 : Nat → Int32} {t1 : UInt32} {a2 : Nat → Nat → Int32} {s2 : Nat → Int32} {t2 : UInt32} {al : Int32} {ma : Nat → Nat → Int32} {ms : Nat → Int32} {mt : UInt32} {ol : Nat → Int64} {od : Nat → UInt64} {x y : Int32} (k110 : mi_slot x y = false → K (some (.int 110)) (am_W ha hz a1 s1 t1 a2 s2 t2 al ma ms mt ol od)) (k45e : ∀ A B, A < 3 → B < 4 → x = nI A → y = nI B → ma 0 (4 * A + B) = 45 → K (some (.int 110)) (am_W ha hz a1 s1 t1 a2 s2 t2 al ma ms mt ol od)) (k116 : ∀ A B, A < 3 → B < 4 → x = nI A → y = nI B → ¬ ma 0 (4 * A + B) = 45 → ¬ ms 23 = 0 → K (some (.int 116)) (am_W ha hz a1 s1 t1 a2 s2 t2 al ma ms mt ol od)) (k119 : ∀ A B, A < 3 → B < 4 → x = nI A → y = nI B → ¬ ma 0 (4 * A + B) = 45 → ms 23 = 0 → mc_first (mt_p ma A B) B (4 - B) = none → K (some (.int 119)) (am_W ha hz a1 s1 t1 a2 s2 t2 al ma ms mt ol od)) (k45 : ∀ A B j, A < 3 → B < 4 → x = nI A → y = nI B → ¬ ma 0 (4 * A + B) = 45 → ms 23 = 0 → j < 4 → mc_first (mt_p ma A B) B (4 - B) = some j → K (some (.int 45)) (am_W ha hz a1 s1 t1 a2 s2 t2 al ma (am_u1 ms 19 (nI (4 * A + j))) mt ol od)) : am_Run (d + 3) 127 [.ref 39, .int x, .int y] (am_W ha hz a1 s1 t1 a2 s2 t2 al ma ms mt ol od) K := by
  refine ⟨rfl, fun P hm hP => ?_⟩
  show P 0 [some (.ref 39), some (.int x), some (.int y), none, none] [] _ 0 0
  refine s_iload_n hP t127_0 rfl ?_
  refine s_iload_n hP t127_1 rfl ?_
  refine s_invokestatic (bc' := 0) (bs' := 0) hP t127_2 rfl rfl rfl rfl rfl ?_
  refine sp101 ?_
  refine s_zeq hP t127_5 (fun q5 => ?_) (fun q5 => ?_)
  · refine s_bipush (v := 110) hP t127_23 (by decide) ?_
    refine s_ireturn hP t127_25 rfl rfl ?_
    exact k110 q5
  · obtain ⟨A, B, hA, hB, rfl, rfl⟩ := mi_slot_nI q5
    refine s_aload_n hP t127_8 rfl ?_
    refine s_getfield hP t127_9 rfl rfl ?_
    refine s_iconst (v := 4) hP t127_12 (by decide) ?_
    refine s_iload_n hP t127_13 rfl ?_
    refine s_imul hP t127_14 ?_
    rw [show (4 : Int32) * nI A = nI (4 * A) by rw [show (4 : Int32) = nI 4 from rfl, pk_mul]]
    refine s_iload_n hP t127_15 rfl ?_
    refine s_iadd hP t127_16 ?_
    rw [nI_add]
    refine s_caload hP t127_17 rfl (vp_in_nI (by omega) (by decide)) ?_
    rw [nI_clamp (by omega)]
    refine s_bipush (v := 45) hP t127_18 (by decide) ?_
    refine s_icmp_ne hP t127_20 (fun q20 => ?_) (fun q20 => ?_)
    · refine s_aload_n hP t127_26 rfl ?_
      refine s_getfield hP t127_27 rfl rfl ?_
      refine s_if_eq hP t127_30 (fun q30 => ?_) (fun q30 => ?_)
      · refine s_iconst (v := 4) hP t127_36 (by decide) ?_
        refine s_iload_n hP t127_37 rfl ?_
        refine s_imul hP t127_38 ?_
        rw [show (4 : Int32) * nI A = nI (4 * A) by rw [show (4 : Int32) = nI 4 from rfl, pk_mul]]
        refine s_iload_n hP t127_39 rfl ?_
        refine s_iadd hP t127_40 ?_
        rw [nI_add]
        refine s_istore_n_3 hP t127_41 (by exact rfl) ?_
        refine s_iload_n hP t127_42 rfl ?_
        refine s_istore_4 hP t127_43 (by exact rfl) ?_
        have loop : ∀ (n j : Nat), j ≤ 4 → 5 ≤ j + n → mc_first (mt_p ma A B) j (4 - j) = mc_first (mt_p ma A B) B (4 - B) → P 45 [some (.ref 39), some (.int (nI A)), some (.int (nI B)), some (.int (nI (4 * A + B))), some (.int (nI (4 * A + j)))] [] (am_W ha hz a1 s1 t1 a2 s2 t2 al ma ms mt ol od) 0 0 := by
          intro n
          induction n with
          | zero => intro j h3 h4; omega
          | succ n ih =>
            intro j h3 h4 hj
            refine s_iload hP t127_45 rfl ?_
            refine s_iconst (v := 4) hP t127_47 (by decide) ?_
            refine s_iload_n hP t127_48 rfl ?_
            refine s_imul hP t127_49 ?_
            rw [show (4 : Int32) * nI A = nI (4 * A) by rw [show (4 : Int32) = nI 4 from rfl, pk_mul]]
            refine s_iconst (v := 4) hP t127_50 (by decide) ?_
            refine s_iadd hP t127_51 ?_
            rw [show nI (4 * A) + 4 = nI (4 * A + 4) from nI_add (4 * A) 4]
            refine s_icmp_ge hP t127_52 (fun q52 => ?_) (fun q52 => ?_)
            · have e9 : 4 ≤ j := by
                have := (nI_leI (by omega) (by omega)).mp q52
                omega
              refine s_iload hP t127_102 rfl ?_
              refine s_iconst (v := 4) hP t127_104 (by decide) ?_
              refine s_iload_n hP t127_105 rfl ?_
              refine s_imul hP t127_106 ?_
              rw [show (4 : Int32) * nI A = nI (4 * A) by rw [show (4 : Int32) = nI 4 from rfl, pk_mul]]
              refine s_iconst (v := 4) hP t127_107 (by decide) ?_
              refine s_iadd hP t127_108 ?_
              rw [show nI (4 * A) + 4 = nI (4 * A + 4) from nI_add (4 * A) 4]
              refine s_icmp_ne hP t127_109 (fun q109 => ?_) (fun q109 => ?_)
              · exact absurd (show nI (4 * A + j) = nI (4 * A + 4) by rw [show j = 4 by omega]) q109
              · refine s_bipush (v := 119) hP t127_112 (by decide) ?_
                refine s_ireturn hP t127_114 rfl rfl ?_
                obtain rfl : j = 4 := by omega
                exact k119 A B hA hB rfl rfl q20 q30 hj.symm
            · have e9 : j < 4 := Nat.lt_of_not_le (fun q => q52 ((nI_leI (by omega) (by omega)).mpr (by omega)))
              refine s_aload_n hP t127_55 rfl ?_
              refine s_getfield hP t127_56 rfl rfl ?_
              refine s_iload hP t127_59 rfl ?_
              refine s_caload hP t127_61 rfl (vp_in_nI (by omega) (by decide)) ?_
              rw [nI_clamp (by omega)]
              refine s_aload_n hP t127_62 rfl ?_
              refine s_getfield hP t127_63 rfl rfl ?_
              refine s_iload_n hP t127_66 rfl ?_
              refine s_caload hP t127_67 rfl (vp_in_nI (by omega) (by decide)) ?_
              rw [nI_clamp (by omega)]
              refine s_icmp_ne hP t127_68 (fun q68 => ?_) (fun q68 => ?_)
              · refine s_iinc_4 (v := 1) hP t127_96 (by decide) (by exact rfl) ?_
                refine s_goto hP t127_99 ?_
                rw [nI_1]
                refine ih (j + 1) (by omega) (by omega) ?_
                rw [← hj, show 4 - j = (4 - (j + 1)) + 1 by omega, mc_first, if_neg (by rw [mt_p, decide_eq_false q68, Bool.false_and]; decide)]
              · refine s_aload_n hP t127_71 rfl ?_
                refine s_getfield hP t127_72 rfl rfl ?_
                refine s_iload hP t127_75 rfl ?_
                refine s_iaload hP t127_77 rfl (vp_in_nI (by omega) (by decide)) ?_
                rw [nI_clamp (by omega)]
                refine s_aload_n hP t127_78 rfl ?_
                refine s_getfield hP t127_79 rfl rfl ?_
                refine s_iload_n hP t127_82 rfl ?_
                refine s_iaload hP t127_83 rfl (vp_in_nI (by omega) (by decide)) ?_
                rw [nI_clamp (by omega)]
                refine s_icmp_ne hP t127_84 (fun q84 => ?_) (fun q84 => ?_)
                · refine s_iinc_4 (v := 1) hP t127_96 (by decide) (by exact rfl) ?_
                  refine s_goto hP t127_99 ?_
                  rw [nI_1]
                  refine ih (j + 1) (by omega) (by omega) ?_
                  rw [← hj, show 4 - j = (4 - (j + 1)) + 1 by omega, mc_first, if_neg (by rw [mt_p, decide_eq_true q68, decide_eq_false q84, Bool.false_and, Bool.and_false]; decide)]
                · refine s_aload_n hP t127_87 rfl ?_
                  refine s_iload hP t127_88 rfl ?_
                  refine s_invokevirtual (bc' := 0) (bs' := 0) hP t127_90 rfl rfl rfl rfl rfl ?_
                  refine sp125 (by omega) ?_
                  refine s_zeq hP t127_93 (fun q93 => ?_) (fun q93 => ?_)
                  · refine s_iload hP t127_102 rfl ?_
                    refine s_iconst (v := 4) hP t127_104 (by decide) ?_
                    refine s_iload_n hP t127_105 rfl ?_
                    refine s_imul hP t127_106 ?_
                    rw [show (4 : Int32) * nI A = nI (4 * A) by rw [show (4 : Int32) = nI 4 from rfl, pk_mul]]
                    refine s_iconst (v := 4) hP t127_107 (by decide) ?_
                    refine s_iadd hP t127_108 ?_
                    rw [show nI (4 * A) + 4 = nI (4 * A + 4) from nI_add (4 * A) 4]
                    refine s_icmp_ne hP t127_109 (fun q109 => ?_) (fun q109 => ?_)
                    · refine s_aload_n hP t127_115 rfl ?_
                      refine s_iload hP t127_116 rfl ?_
                      refine s_putfield hP t127_118 rfl rfl rfl rfl ?_
                      refine s_bipush (v := 45) hP t127_121 (by decide) ?_
                      refine s_ireturn hP t127_123 rfl rfl ?_
                      exact k45 A B j hA hB rfl rfl q20 q30 (by omega) (by rw [← hj, show 4 - j = (4 - (j + 1)) + 1 by omega, mc_first, if_pos (by rw [mt_p, decide_eq_true q68, decide_eq_true q84, q93]; rfl)])
                    · exact absurd ((nI_inj (by omega) (by omega)).mp q109) (by omega)
                  · refine s_iinc_4 (v := 1) hP t127_96 (by decide) (by exact rfl) ?_
                    refine s_goto hP t127_99 ?_
                    rw [nI_1]
                    refine ih (j + 1) (by omega) (by omega) ?_
                    rw [← hj, show 4 - j = (4 - (j + 1)) + 1 by omega, mc_first, if_neg (by rw [mt_p, decide_eq_true q68, decide_eq_true q84, q93]; decide)]
        exact loop 5 B (by omega) (by omega) rfl
      · refine s_bipush (v := 116) hP t127_33 (by decide) ?_
        refine s_ireturn hP t127_35 rfl rfl ?_
        exact k116 A B hA hB rfl rfl q20 q30
    · refine s_bipush (v := 110) hP t127_23 (by decide) ?_
      refine s_ireturn hP t127_25 rfl rfl ?_
      exact k45e A B hA hB rfl rfl q20
set_option maxHeartbeats 4000000 in
theorem sp128 {d : Nat} {K : am_K} {ha : Nat → Nat → Int32} {hz : Int32} {a1 : Nat → Nat → Int32} {s1 : Nat → Int32} {t1 : UInt32} {a2 : Nat → Nat → Int32} {s2 : Nat → Int32} {t2 : UInt32} {al : Int32} {ma : Nat → Nat → Int32} {ms : Nat → Int32} {mt : UInt32} {ol : Nat → Int64} {od : Nat → UInt64} {x : Int32} {S T : Nat → Bool} (hS : ∀ q, q < 1152 → ma 14 q = am_b (!S q)) (hT : ∀ q, q < 1152 → ma 13 q = am_b (T q)) {c s R X Y Z : Nat} (hm1 : ms 19 = -1 ∨ ms 19 = nI c ∧ c < 12) (hq : ¬ ms 19 = -1 → mg_req ma ms c s R) (hX : ma 11 0 = nI X) (hY : ma 11 1 = nI Y) (hZ : ma 11 2 = nI Z) (hX9 : X < 16) (hY9 : Y < 12) (hZ9 : Z < 10) (k110 : mi_iw x 0 7 = false → K (some (.int 110)) (am_W ha hz a1 s1 t1 a2 s2 t2 al ma ms mt ol od)) (k115 : mi_iw x 0 7 = true → ms 19 = -1 → K (some (.int 115)) (am_W ha hz a1 s1 t1 a2 s2 t2 al ma ms mt ol od)) (k120 : mi_iw x 0 7 = true → ¬ ms 19 = -1 → mx_meet S s R X Y Z → K (some (.int 120)) (am_W ha hz a1 s1 t1 a2 s2 t2 al ma ms mt ol od)) (k45 : mi_iw x 0 7 = true → ¬ ms 19 = -1 → ¬ mx_meet S s R X Y Z → K (some (.int 45)) (am_W ha hz a1 s1 t1 a2 s2 t2 al (am_u2 ma 9 (upd (ma 9) x.toNatClampNeg (nI (me_lev (fun l => mx_d (mx_meet S s R X Y l)) Z)))) ms mt ol od)) : am_Run (d + 3) 128 [.ref 39, .int x] (am_W ha hz a1 s1 t1 a2 s2 t2 al ma ms mt ol od) K := by
  refine ⟨rfl, fun P hm hP => ?_⟩
  show P 0 [some (.ref 39), some (.int x), none] [] _ 0 0
  refine s_iload_n hP t128_0 rfl ?_
  refine s_iconst (v := 0) hP t128_1 (by decide) ?_
  refine s_bipush (v := 7) hP t128_2 (by decide) ?_
  refine s_invokestatic (bc' := 0) (bs' := 0) hP t128_4 rfl rfl rfl rfl rfl ?_
  refine sp97 ?_
  refine s_zne hP t128_7 (fun q7 => ?_) (fun q7 => ?_)
  · refine s_aload_n hP t128_13 rfl ?_
    refine s_getfield hP t128_14 rfl rfl ?_
    refine s_if_ge hP t128_17 (fun q17 => ?_) (fun q17 => ?_)
    · have hcu := q17
      obtain ⟨hc, hc9, hs, hr, hsh, hR⟩ := hq (fun q => by rw [q] at q17; exact absurd q17 (by decide))
      refine s_aload_n hP t128_23 rfl ?_
      refine s_getfield hP t128_24 rfl rfl ?_
      refine s_iconst (v := 2) hP t128_27 (by decide) ?_
      refine s_iaload hP t128_28 rfl (vp_in_nI (n := 2) (by decide) (by decide)) ?_
      rw [show (2 : Int32).toNatClampNeg = 2 from rfl, hZ]
      refine s_istore_n_2 hP t128_29 (by exact rfl) ?_
      refine s_aload_n hP t128_30 rfl ?_
      refine s_aload_n hP t128_31 rfl ?_
      refine s_getfield hP t128_32 rfl rfl ?_
      refine s_iconst (v := 0) hP t128_35 (by decide) ?_
      refine s_iaload hP t128_36 rfl (vp_in_nI (n := 0) (by decide) (by decide)) ?_
      rw [show (0 : Int32).toNatClampNeg = 0 from rfl, hX]
      refine s_aload_n hP t128_37 rfl ?_
      refine s_getfield hP t128_38 rfl rfl ?_
      refine s_iconst (v := 1) hP t128_41 (by decide) ?_
      refine s_iaload hP t128_42 rfl (vp_in_nI (n := 1) (by decide) (by decide)) ?_
      rw [show (1 : Int32).toNatClampNeg = 1 from rfl, hY]
      refine s_iload_n hP t128_43 rfl ?_
      refine s_iconst (v := 1) hP t128_44 (by decide) ?_
      refine s_iconst (v := 0) hP t128_45 (by decide) ?_
      refine s_invokevirtual (bc' := 0) (bs' := 0) hP t128_46 rfl rfl rfl rfl rfl ?_
      refine sp117 (S := S) (T := T) (bs := true) (bf := false) hS hT hc hc9 hs hr hsh hR hX9 hY9 hZ9 ?_
      refine s_if_le hP t128_49 (fun q49 => ?_) (fun q49 => ?_)
      · have hcm : ¬ mx_meet S s R X Y Z := mt_meet.mp q49
        have loop : ∀ (l : Nat), l ≤ Z → me_lev (fun l => mx_d (mx_meet S s R X Y l)) l = me_lev (fun l => mx_d (mx_meet S s R X Y l)) Z → P 55 [some (.ref 39), some (.int x), some (.int (nI l))] [] (am_W ha hz a1 s1 t1 a2 s2 t2 al ma ms mt ol od) 0 0 := by
          intro l
          induction l with
          | zero =>
            intro h3 hl
            refine s_iload_n hP t128_55 rfl ?_
            refine s_if_le hP t128_56 (fun q56 => ?_) (fun q56 => ?_)
            · refine s_aload_n hP t128_89 rfl ?_
              refine s_getfield hP t128_90 rfl rfl ?_
              refine s_iload_n hP t128_93 rfl ?_
              refine s_iload_n hP t128_94 rfl ?_
              refine s_iastore hP t128_95 rfl (mi_iw_in (N := 7) rfl (by decide) q7) ?_
              refine s_bipush (v := 45) hP t128_96 (by decide) ?_
              refine s_ireturn hP t128_98 rfl rfl ?_
              rw [← hl] at k45
              exact k45 q7 (fun q => by rw [q] at hcu; exact absurd hcu (by decide)) hcm
            · exact absurd (Int32.le_refl _) q56
          | succ l ih =>
            intro h3 hl
            refine s_iload_n hP t128_55 rfl ?_
            refine s_if_le hP t128_56 (fun q56 => ?_) (fun q56 => ?_)
            · exact absurd ((nI_leI (b := 0) (by omega) (by decide)).mp q56) (by omega)
            · refine s_aload_n hP t128_59 rfl ?_
              refine s_aload_n hP t128_60 rfl ?_
              refine s_getfield hP t128_61 rfl rfl ?_
              refine s_iconst (v := 0) hP t128_64 (by decide) ?_
              refine s_iaload hP t128_65 rfl (vp_in_nI (n := 0) (by decide) (by decide)) ?_
              rw [show (0 : Int32).toNatClampNeg = 0 from rfl, hX]
              refine s_aload_n hP t128_66 rfl ?_
              refine s_getfield hP t128_67 rfl rfl ?_
              refine s_iconst (v := 1) hP t128_70 (by decide) ?_
              refine s_iaload hP t128_71 rfl (vp_in_nI (n := 1) (by decide) (by decide)) ?_
              rw [show (1 : Int32).toNatClampNeg = 1 from rfl, hY]
              refine s_iload_n hP t128_72 rfl ?_
              refine s_iconst (v := 1) hP t128_73 (by decide) ?_
              refine s_isub hP t128_74 ?_
              rw [show nI (l + 1) - 1 = nI l from nI_pred l]
              refine s_iconst (v := 1) hP t128_75 (by decide) ?_
              refine s_iconst (v := 0) hP t128_76 (by decide) ?_
              refine s_invokevirtual (bc' := 0) (bs' := 0) hP t128_77 rfl rfl rfl rfl rfl ?_
              refine sp117 (S := S) (T := T) (bs := true) (bf := false) hS hT hc hc9 hs hr hsh hR hX9 hY9 (by omega) ?_
              refine s_if_ne hP t128_80 (fun q80 => ?_) (fun q80 => ?_)
              · refine s_aload_n hP t128_89 rfl ?_
                refine s_getfield hP t128_90 rfl rfl ?_
                refine s_iload_n hP t128_93 rfl ?_
                refine s_iload_n hP t128_94 rfl ?_
                refine s_iastore hP t128_95 rfl (mi_iw_in (N := 7) rfl (by decide) q7) ?_
                refine s_bipush (v := 45) hP t128_96 (by decide) ?_
                refine s_ireturn hP t128_98 rfl rfl ?_
                rw [← hl, me_lev, if_pos (by show mx_d (mx_meet S s R X Y l) = true; rw [mx_d_iff]; exact Classical.byContradiction (fun q => q80 (mt_meet0.mpr q)))] at k45
                exact k45 q7 (fun q => by rw [q] at hcu; exact absurd hcu (by decide)) hcm
              · refine s_iinc_2 (v := (-1)) hP t128_83 (by decide) (by exact rfl) ?_
                refine s_goto hP t128_86 ?_
                rw [nI_m1]
                exact ih (by omega) (by rw [← hl, me_lev, if_neg (by show ¬ mx_d (mx_meet S s R X Y l) = true; rw [mx_d_iff]; exact mt_meet0.mp q80)])
        exact loop Z (Nat.le_refl _) rfl
      · refine s_bipush (v := 120) hP t128_52 (by decide) ?_
        refine s_ireturn hP t128_54 rfl rfl ?_
        exact k120 q7 (fun q => by rw [q] at hcu; exact absurd hcu (by decide)) (Classical.byContradiction (fun q => q49 (mt_meet.mpr q)))
    · refine s_bipush (v := 115) hP t128_20 (by decide) ?_
      refine s_ireturn hP t128_22 rfl rfl ?_
      exact k115 q7 (hm1.resolve_right (fun q => q17 (by rw [q.1]; exact nI_pos' (n := c) (by omega))))
  · refine s_bipush (v := 110) hP t128_10 (by decide) ?_
    refine s_ireturn hP t128_12 rfl rfl ?_
    exact k110 q7
theorem mt_clip {x y : Int32} : mi_max (-50) (if 50 ≤ x + y then 50 else x + y) = mc_clip (x + y) := by
  rw [mi_max, mc_clip, mp_mx]
  generalize (if 50 ≤ x + y then (50 : Int32) else x + y) = z
  by_cases h : z < -50
  · rw [if_pos h]
    first
    | rw [if_pos (by exact Int32.le_of_lt h)]
    | rw [if_pos h]
    | rw [if_neg (by intro q; exact absurd h (Int32.not_lt.mpr (by first | exact q | exact Int32.le_of_lt q)))]
  · rw [if_neg h]
    first
    | rw [if_neg h]
    | rw [if_pos (by first | exact Int32.not_lt.mp h)]
    | (split
       · rename_i q; exact Int32.le_antisymm (Int32.not_lt.mp h) q |>.symm
       · rfl)
set_option maxHeartbeats 2000000 in
theorem sp129_115 {d : Nat} {K : am_K} {ha : Nat → Nat → Int32} {hz : Int32} {a1 : Nat → Nat → Int32} {s1 : Nat → Int32} {t1 : UInt32} {a2 : Nat → Nat → Int32} {s2 : Nat → Int32} {t2 : UInt32} {al : Int32} {ma : Nat → Nat → Int32} {ms : Nat → Int32} {mt : UInt32} {ol : Nat → Int64} {od : Nat → UInt64} {x y z : Int32} (k110 : mi_iw x 0 1 = false → K (some (.int 110)) (am_W ha hz a1 s1 t1 a2 s2 t2 al ma ms mt ol od)) (k45 : mi_iw x 0 1 = true → K (some (.int 45)) (am_W ha hz a1 s1 t1 a2 s2 t2 al ma (am_u1 ms 23 (am_b (decide (x = 1)))) mt ol od)) : am_Run (d + 2) 129 [.ref 39, .int 115, .int x, .int y, .int z] (am_W ha hz a1 s1 t1 a2 s2 t2 al ma ms mt ol od) K := by
  refine ⟨rfl, fun P hm hP => ?_⟩
  show P 0 [some (.ref 39), some (.int 115), some (.int x), some (.int y), some (.int z), none] [] _ 0 0
  refine s_iload_n hP t129_0 rfl ?_
  refine s_bipush (v := 102) hP t129_1 (by decide) ?_
  refine s_icmp_ne hP t129_3 (fun q3 => ?_) (fun q3 => ?_)
  · refine s_iload_n hP t129_11 rfl ?_
    refine s_bipush (v := 111) hP t129_12 (by decide) ?_
    refine s_icmp_ne hP t129_14 (fun q14 => ?_) (fun q14 => ?_)
    · refine s_iload_n hP t129_21 rfl ?_
      refine s_bipush (v := 118) hP t129_22 (by decide) ?_
      refine s_icmp_ne hP t129_24 (fun q24 => ?_) (fun q24 => ?_)
      · refine s_iconst (v := 1) hP t129_32 (by decide) ?_
        refine s_istore_5 hP t129_33 (by exact rfl) ?_
        refine s_iload_n hP t129_35 rfl ?_
        refine s_iload_n hP t129_36 rfl ?_
        refine s_bipush (v := 102) hP t129_37 (by decide) ?_
        refine s_icmp_ne hP t129_39 (fun q39 => ?_) (fun q39 => ?_)
        · refine s_iconst (v := 0) hP t129_46 (by decide) ?_
          refine s_iload hP t129_47 rfl ?_
          refine s_invokestatic (bc' := 0) (bs' := 0) hP t129_49 rfl rfl rfl rfl rfl ?_
          refine sp97 ?_
          refine s_zne hP t129_52 (fun q52 => ?_) (fun q52 => ?_)
          · refine s_iload_n hP t129_58 rfl ?_
            refine s_bipush (v := 115) hP t129_59 (by decide) ?_
            refine s_icmp_ne hP t129_61 (fun q61 => ?_) (fun q61 => ?_)
            · exact absurd rfl q61
            · refine s_aload_n hP t129_64 rfl ?_
              refine s_iload_n hP t129_65 rfl ?_
              refine s_iconst (v := 1) hP t129_66 (by decide) ?_
              refine s_icmp_ne hP t129_67 (fun q67 => ?_) (fun q67 => ?_)
              · refine s_iconst (v := 0) hP t129_74 (by decide) ?_
                refine s_putfield hP t129_75 rfl rfl rfl rfl ?_
                refine s_iload_n hP t129_78 rfl ?_
                refine s_bipush (v := 102) hP t129_79 (by decide) ?_
                refine s_icmp_ne hP t129_81 (fun q81 => ?_) (fun q81 => ?_)
                · refine s_iload_n hP t129_89 rfl ?_
                  refine s_bipush (v := 109) hP t129_90 (by decide) ?_
                  refine s_icmp_ne hP t129_92 (fun q92 => ?_) (fun q92 => ?_)
                  · refine s_iload_n hP t129_109 rfl ?_
                    refine s_bipush (v := 111) hP t129_110 (by decide) ?_
                    refine s_icmp_ne hP t129_112 (fun q112 => ?_) (fun q112 => ?_)
                    · refine s_iload_n hP t129_120 rfl ?_
                      refine s_bipush (v := 118) hP t129_121 (by decide) ?_
                      refine s_icmp_ne hP t129_123 (fun q123 => ?_) (fun q123 => ?_)
                      · refine s_bipush (v := 45) hP t129_155 (by decide) ?_
                        refine s_ireturn hP t129_157 rfl rfl ?_
                        rw [show decide (x = 1) = false from decide_eq_false q67] at k45
                        exact k45 q52
                      · exact absurd q123 (by decide)
                    · exact absurd q112 (by decide)
                  · exact absurd q92 (by decide)
                · exact absurd q81 (by decide)
              · refine s_iconst (v := 1) hP t129_70 (by decide) ?_
                refine s_goto hP t129_71 ?_
                refine s_putfield hP t129_75 rfl rfl rfl rfl ?_
                refine s_iload_n hP t129_78 rfl ?_
                refine s_bipush (v := 102) hP t129_79 (by decide) ?_
                refine s_icmp_ne hP t129_81 (fun q81 => ?_) (fun q81 => ?_)
                · refine s_iload_n hP t129_89 rfl ?_
                  refine s_bipush (v := 109) hP t129_90 (by decide) ?_
                  refine s_icmp_ne hP t129_92 (fun q92 => ?_) (fun q92 => ?_)
                  · refine s_iload_n hP t129_109 rfl ?_
                    refine s_bipush (v := 111) hP t129_110 (by decide) ?_
                    refine s_icmp_ne hP t129_112 (fun q112 => ?_) (fun q112 => ?_)
                    · refine s_iload_n hP t129_120 rfl ?_
                      refine s_bipush (v := 118) hP t129_121 (by decide) ?_
                      refine s_icmp_ne hP t129_123 (fun q123 => ?_) (fun q123 => ?_)
                      · refine s_bipush (v := 45) hP t129_155 (by decide) ?_
                        refine s_ireturn hP t129_157 rfl rfl ?_
                        rw [show decide (x = 1) = true from decide_eq_true q67] at k45
                        exact k45 q52
                      · exact absurd q123 (by decide)
                    · exact absurd q112 (by decide)
                  · exact absurd q92 (by decide)
                · exact absurd q81 (by decide)
          · refine s_bipush (v := 110) hP t129_55 (by decide) ?_
            refine s_ireturn hP t129_57 rfl rfl ?_
            exact k110 q52
        · exact absurd q39 (by decide)
      · exact absurd q24 (by decide)
    · exact absurd q14 (by decide)
  · exact absurd q3 (by decide)
set_option maxHeartbeats 2000000 in
theorem sp129_102 {d : Nat} {K : am_K} {ha : Nat → Nat → Int32} {hz : Int32} {a1 : Nat → Nat → Int32} {s1 : Nat → Int32} {t1 : UInt32} {a2 : Nat → Nat → Int32} {s2 : Nat → Int32} {t2 : UInt32} {al : Int32} {ma : Nat → Nat → Int32} {ms : Nat → Int32} {mt : UInt32} {ol : Nat → Int64} {od : Nat → UInt64} {x y z : Int32} (k110 : mi_iw x 1 50 = false → K (some (.int 110)) (am_W ha hz a1 s1 t1 a2 s2 t2 al ma ms mt ol od)) (k45 : mi_iw x 1 50 = true → K (some (.int 45)) (am_W ha hz a1 s1 t1 a2 s2 t2 al ma (am_u1 ms 20 x) mt ol od)) : am_Run (d + 2) 129 [.ref 39, .int 102, .int x, .int y, .int z] (am_W ha hz a1 s1 t1 a2 s2 t2 al ma ms mt ol od) K := by
  refine ⟨rfl, fun P hm hP => ?_⟩
  show P 0 [some (.ref 39), some (.int 102), some (.int x), some (.int y), some (.int z), none] [] _ 0 0
  refine s_iload_n hP t129_0 rfl ?_
  refine s_bipush (v := 102) hP t129_1 (by decide) ?_
  refine s_icmp_ne hP t129_3 (fun q3 => ?_) (fun q3 => ?_)
  · exact absurd rfl q3
  · refine s_bipush (v := 50) hP t129_6 (by decide) ?_
    refine s_goto hP t129_8 ?_
    refine s_istore_5 hP t129_33 (by exact rfl) ?_
    refine s_iload_n hP t129_35 rfl ?_
    refine s_iload_n hP t129_36 rfl ?_
    refine s_bipush (v := 102) hP t129_37 (by decide) ?_
    refine s_icmp_ne hP t129_39 (fun q39 => ?_) (fun q39 => ?_)
    · exact absurd rfl q39
    · refine s_iconst (v := 1) hP t129_42 (by decide) ?_
      refine s_goto hP t129_43 ?_
      refine s_iload hP t129_47 rfl ?_
      refine s_invokestatic (bc' := 0) (bs' := 0) hP t129_49 rfl rfl rfl rfl rfl ?_
      refine sp97 ?_
      refine s_zne hP t129_52 (fun q52 => ?_) (fun q52 => ?_)
      · refine s_iload_n hP t129_58 rfl ?_
        refine s_bipush (v := 115) hP t129_59 (by decide) ?_
        refine s_icmp_ne hP t129_61 (fun q61 => ?_) (fun q61 => ?_)
        · refine s_iload_n hP t129_78 rfl ?_
          refine s_bipush (v := 102) hP t129_79 (by decide) ?_
          refine s_icmp_ne hP t129_81 (fun q81 => ?_) (fun q81 => ?_)
          · exact absurd rfl q81
          · refine s_aload_n hP t129_84 rfl ?_
            refine s_iload_n hP t129_85 rfl ?_
            refine s_putfield hP t129_86 rfl rfl rfl rfl ?_
            refine s_iload_n hP t129_89 rfl ?_
            refine s_bipush (v := 109) hP t129_90 (by decide) ?_
            refine s_icmp_ne hP t129_92 (fun q92 => ?_) (fun q92 => ?_)
            · refine s_iload_n hP t129_109 rfl ?_
              refine s_bipush (v := 111) hP t129_110 (by decide) ?_
              refine s_icmp_ne hP t129_112 (fun q112 => ?_) (fun q112 => ?_)
              · refine s_iload_n hP t129_120 rfl ?_
                refine s_bipush (v := 118) hP t129_121 (by decide) ?_
                refine s_icmp_ne hP t129_123 (fun q123 => ?_) (fun q123 => ?_)
                · refine s_bipush (v := 45) hP t129_155 (by decide) ?_
                  refine s_ireturn hP t129_157 rfl rfl ?_
                  exact k45 q52
                · exact absurd q123 (by decide)
              · exact absurd q112 (by decide)
            · exact absurd q92 (by decide)
        · exact absurd q61 (by decide)
      · refine s_bipush (v := 110) hP t129_55 (by decide) ?_
        refine s_ireturn hP t129_57 rfl rfl ?_
        exact k110 q52
set_option maxHeartbeats 2000000 in
theorem sp129_109 {d : Nat} {K : am_K} {ha : Nat → Nat → Int32} {hz : Int32} {a1 : Nat → Nat → Int32} {s1 : Nat → Int32} {t1 : UInt32} {a2 : Nat → Nat → Int32} {s2 : Nat → Int32} {t2 : UInt32} {al : Int32} {ma : Nat → Nat → Int32} {ms : Nat → Int32} {mt : UInt32} {ol : Nat → Int64} {od : Nat → UInt64} {x y z : Int32} (k110 : mi_iw x 0 1 = false → K (some (.int 110)) (am_W ha hz a1 s1 t1 a2 s2 t2 al ma ms mt ol od)) (k45 : mi_iw x 0 1 = true → K (some (.int 45)) (am_W ha hz a1 s1 t1 a2 s2 t2 al ma (am_u1 ms 22 (am_b (decide (x = 1)))) mt ol od)) : am_Run (d + 2) 129 [.ref 39, .int 109, .int x, .int y, .int z] (am_W ha hz a1 s1 t1 a2 s2 t2 al ma ms mt ol od) K := by
  refine ⟨rfl, fun P hm hP => ?_⟩
  show P 0 [some (.ref 39), some (.int 109), some (.int x), some (.int y), some (.int z), none] [] _ 0 0
  refine s_iload_n hP t129_0 rfl ?_
  refine s_bipush (v := 102) hP t129_1 (by decide) ?_
  refine s_icmp_ne hP t129_3 (fun q3 => ?_) (fun q3 => ?_)
  · refine s_iload_n hP t129_11 rfl ?_
    refine s_bipush (v := 111) hP t129_12 (by decide) ?_
    refine s_icmp_ne hP t129_14 (fun q14 => ?_) (fun q14 => ?_)
    · refine s_iload_n hP t129_21 rfl ?_
      refine s_bipush (v := 118) hP t129_22 (by decide) ?_
      refine s_icmp_ne hP t129_24 (fun q24 => ?_) (fun q24 => ?_)
      · refine s_iconst (v := 1) hP t129_32 (by decide) ?_
        refine s_istore_5 hP t129_33 (by exact rfl) ?_
        refine s_iload_n hP t129_35 rfl ?_
        refine s_iload_n hP t129_36 rfl ?_
        refine s_bipush (v := 102) hP t129_37 (by decide) ?_
        refine s_icmp_ne hP t129_39 (fun q39 => ?_) (fun q39 => ?_)
        · refine s_iconst (v := 0) hP t129_46 (by decide) ?_
          refine s_iload hP t129_47 rfl ?_
          refine s_invokestatic (bc' := 0) (bs' := 0) hP t129_49 rfl rfl rfl rfl rfl ?_
          refine sp97 ?_
          refine s_zne hP t129_52 (fun q52 => ?_) (fun q52 => ?_)
          · refine s_iload_n hP t129_58 rfl ?_
            refine s_bipush (v := 115) hP t129_59 (by decide) ?_
            refine s_icmp_ne hP t129_61 (fun q61 => ?_) (fun q61 => ?_)
            · refine s_iload_n hP t129_78 rfl ?_
              refine s_bipush (v := 102) hP t129_79 (by decide) ?_
              refine s_icmp_ne hP t129_81 (fun q81 => ?_) (fun q81 => ?_)
              · refine s_iload_n hP t129_89 rfl ?_
                refine s_bipush (v := 109) hP t129_90 (by decide) ?_
                refine s_icmp_ne hP t129_92 (fun q92 => ?_) (fun q92 => ?_)
                · exact absurd rfl q92
                · refine s_aload_n hP t129_95 rfl ?_
                  refine s_iload_n hP t129_96 rfl ?_
                  refine s_iconst (v := 1) hP t129_97 (by decide) ?_
                  refine s_icmp_ne hP t129_98 (fun q98 => ?_) (fun q98 => ?_)
                  · refine s_iconst (v := 0) hP t129_105 (by decide) ?_
                    refine s_putfield hP t129_106 rfl rfl rfl rfl ?_
                    refine s_iload_n hP t129_109 rfl ?_
                    refine s_bipush (v := 111) hP t129_110 (by decide) ?_
                    refine s_icmp_ne hP t129_112 (fun q112 => ?_) (fun q112 => ?_)
                    · refine s_iload_n hP t129_120 rfl ?_
                      refine s_bipush (v := 118) hP t129_121 (by decide) ?_
                      refine s_icmp_ne hP t129_123 (fun q123 => ?_) (fun q123 => ?_)
                      · refine s_bipush (v := 45) hP t129_155 (by decide) ?_
                        refine s_ireturn hP t129_157 rfl rfl ?_
                        rw [show decide (x = 1) = false from decide_eq_false q98] at k45
                        exact k45 q52
                      · exact absurd q123 (by decide)
                    · exact absurd q112 (by decide)
                  · refine s_iconst (v := 1) hP t129_101 (by decide) ?_
                    refine s_goto hP t129_102 ?_
                    refine s_putfield hP t129_106 rfl rfl rfl rfl ?_
                    refine s_iload_n hP t129_109 rfl ?_
                    refine s_bipush (v := 111) hP t129_110 (by decide) ?_
                    refine s_icmp_ne hP t129_112 (fun q112 => ?_) (fun q112 => ?_)
                    · refine s_iload_n hP t129_120 rfl ?_
                      refine s_bipush (v := 118) hP t129_121 (by decide) ?_
                      refine s_icmp_ne hP t129_123 (fun q123 => ?_) (fun q123 => ?_)
                      · refine s_bipush (v := 45) hP t129_155 (by decide) ?_
                        refine s_ireturn hP t129_157 rfl rfl ?_
                        rw [show decide (x = 1) = true from decide_eq_true q98] at k45
                        exact k45 q52
                      · exact absurd q123 (by decide)
                    · exact absurd q112 (by decide)
              · exact absurd q81 (by decide)
            · exact absurd q61 (by decide)
          · refine s_bipush (v := 110) hP t129_55 (by decide) ?_
            refine s_ireturn hP t129_57 rfl rfl ?_
            exact k110 q52
        · exact absurd q39 (by decide)
      · exact absurd q24 (by decide)
    · exact absurd q14 (by decide)
  · exact absurd q3 (by decide)
set_option maxHeartbeats 2000000 in
theorem sp129_111 {d : Nat} {K : am_K} {ha : Nat → Nat → Int32} {hz : Int32} {a1 : Nat → Nat → Int32} {s1 : Nat → Int32} {t1 : UInt32} {a2 : Nat → Nat → Int32} {s2 : Nat → Int32} {t2 : UInt32} {al : Int32} {ma : Nat → Nat → Int32} {ms : Nat → Int32} {mt : UInt32} {ol : Nat → Int64} {od : Nat → UInt64} {x y z : Int32} (k110 : mi_iw x 0 3 = false → K (some (.int 110)) (am_W ha hz a1 s1 t1 a2 s2 t2 al ma ms mt ol od)) (k45 : mi_iw x 0 3 = true → K (some (.int 45)) (am_W ha hz a1 s1 t1 a2 s2 t2 al ma (am_u1 ms 21 x) mt ol od)) : am_Run (d + 2) 129 [.ref 39, .int 111, .int x, .int y, .int z] (am_W ha hz a1 s1 t1 a2 s2 t2 al ma ms mt ol od) K := by
  refine ⟨rfl, fun P hm hP => ?_⟩
  show P 0 [some (.ref 39), some (.int 111), some (.int x), some (.int y), some (.int z), none] [] _ 0 0
  refine s_iload_n hP t129_0 rfl ?_
  refine s_bipush (v := 102) hP t129_1 (by decide) ?_
  refine s_icmp_ne hP t129_3 (fun q3 => ?_) (fun q3 => ?_)
  · refine s_iload_n hP t129_11 rfl ?_
    refine s_bipush (v := 111) hP t129_12 (by decide) ?_
    refine s_icmp_ne hP t129_14 (fun q14 => ?_) (fun q14 => ?_)
    · exact absurd rfl q14
    · refine s_iconst (v := 3) hP t129_17 (by decide) ?_
      refine s_goto hP t129_18 ?_
      refine s_istore_5 hP t129_33 (by exact rfl) ?_
      refine s_iload_n hP t129_35 rfl ?_
      refine s_iload_n hP t129_36 rfl ?_
      refine s_bipush (v := 102) hP t129_37 (by decide) ?_
      refine s_icmp_ne hP t129_39 (fun q39 => ?_) (fun q39 => ?_)
      · refine s_iconst (v := 0) hP t129_46 (by decide) ?_
        refine s_iload hP t129_47 rfl ?_
        refine s_invokestatic (bc' := 0) (bs' := 0) hP t129_49 rfl rfl rfl rfl rfl ?_
        refine sp97 ?_
        refine s_zne hP t129_52 (fun q52 => ?_) (fun q52 => ?_)
        · refine s_iload_n hP t129_58 rfl ?_
          refine s_bipush (v := 115) hP t129_59 (by decide) ?_
          refine s_icmp_ne hP t129_61 (fun q61 => ?_) (fun q61 => ?_)
          · refine s_iload_n hP t129_78 rfl ?_
            refine s_bipush (v := 102) hP t129_79 (by decide) ?_
            refine s_icmp_ne hP t129_81 (fun q81 => ?_) (fun q81 => ?_)
            · refine s_iload_n hP t129_89 rfl ?_
              refine s_bipush (v := 109) hP t129_90 (by decide) ?_
              refine s_icmp_ne hP t129_92 (fun q92 => ?_) (fun q92 => ?_)
              · refine s_iload_n hP t129_109 rfl ?_
                refine s_bipush (v := 111) hP t129_110 (by decide) ?_
                refine s_icmp_ne hP t129_112 (fun q112 => ?_) (fun q112 => ?_)
                · exact absurd rfl q112
                · refine s_aload_n hP t129_115 rfl ?_
                  refine s_iload_n hP t129_116 rfl ?_
                  refine s_putfield hP t129_117 rfl rfl rfl rfl ?_
                  refine s_iload_n hP t129_120 rfl ?_
                  refine s_bipush (v := 118) hP t129_121 (by decide) ?_
                  refine s_icmp_ne hP t129_123 (fun q123 => ?_) (fun q123 => ?_)
                  · refine s_bipush (v := 45) hP t129_155 (by decide) ?_
                    refine s_ireturn hP t129_157 rfl rfl ?_
                    exact k45 q52
                  · exact absurd q123 (by decide)
              · exact absurd q92 (by decide)
            · exact absurd q81 (by decide)
          · exact absurd q61 (by decide)
        · refine s_bipush (v := 110) hP t129_55 (by decide) ?_
          refine s_ireturn hP t129_57 rfl rfl ?_
          exact k110 q52
      · exact absurd q39 (by decide)
  · exact absurd q3 (by decide)
set_option maxHeartbeats 2000000 in
theorem sp129_118 {d : Nat} {K : am_K} {ha : Nat → Nat → Int32} {hz : Int32} {a1 : Nat → Nat → Int32} {s1 : Nat → Int32} {t1 : UInt32} {a2 : Nat → Nat → Int32} {s2 : Nat → Int32} {t2 : UInt32} {al : Int32} {ma : Nat → Nat → Int32} {ms : Nat → Int32} {mt : UInt32} {ol : Nat → Int64} {od : Nat → UInt64} {x y z : Int32} (k110 : mi_iw x 0 7 = false → K (some (.int 110)) (am_W ha hz a1 s1 t1 a2 s2 t2 al ma ms mt ol od)) (k45 : mi_iw x 0 7 = true → K (some (.int 45)) (am_W ha hz a1 s1 t1 a2 s2 t2 al (am_u2 ma 9 (upd (ma 9) x.toNatClampNeg (mc_clip (y + z)))) ms mt ol od)) : am_Run (d + 2) 129 [.ref 39, .int 118, .int x, .int y, .int z] (am_W ha hz a1 s1 t1 a2 s2 t2 al ma ms mt ol od) K := by
  refine ⟨rfl, fun P hm hP => ?_⟩
  show P 0 [some (.ref 39), some (.int 118), some (.int x), some (.int y), some (.int z), none] [] _ 0 0
  refine s_iload_n hP t129_0 rfl ?_
  refine s_bipush (v := 102) hP t129_1 (by decide) ?_
  refine s_icmp_ne hP t129_3 (fun q3 => ?_) (fun q3 => ?_)
  · refine s_iload_n hP t129_11 rfl ?_
    refine s_bipush (v := 111) hP t129_12 (by decide) ?_
    refine s_icmp_ne hP t129_14 (fun q14 => ?_) (fun q14 => ?_)
    · refine s_iload_n hP t129_21 rfl ?_
      refine s_bipush (v := 118) hP t129_22 (by decide) ?_
      refine s_icmp_ne hP t129_24 (fun q24 => ?_) (fun q24 => ?_)
      · exact absurd rfl q24
      · refine s_bipush (v := 7) hP t129_27 (by decide) ?_
        refine s_goto hP t129_29 ?_
        refine s_istore_5 hP t129_33 (by exact rfl) ?_
        refine s_iload_n hP t129_35 rfl ?_
        refine s_iload_n hP t129_36 rfl ?_
        refine s_bipush (v := 102) hP t129_37 (by decide) ?_
        refine s_icmp_ne hP t129_39 (fun q39 => ?_) (fun q39 => ?_)
        · refine s_iconst (v := 0) hP t129_46 (by decide) ?_
          refine s_iload hP t129_47 rfl ?_
          refine s_invokestatic (bc' := 0) (bs' := 0) hP t129_49 rfl rfl rfl rfl rfl ?_
          refine sp97 ?_
          refine s_zne hP t129_52 (fun q52 => ?_) (fun q52 => ?_)
          · refine s_iload_n hP t129_58 rfl ?_
            refine s_bipush (v := 115) hP t129_59 (by decide) ?_
            refine s_icmp_ne hP t129_61 (fun q61 => ?_) (fun q61 => ?_)
            · refine s_iload_n hP t129_78 rfl ?_
              refine s_bipush (v := 102) hP t129_79 (by decide) ?_
              refine s_icmp_ne hP t129_81 (fun q81 => ?_) (fun q81 => ?_)
              · refine s_iload_n hP t129_89 rfl ?_
                refine s_bipush (v := 109) hP t129_90 (by decide) ?_
                refine s_icmp_ne hP t129_92 (fun q92 => ?_) (fun q92 => ?_)
                · refine s_iload_n hP t129_109 rfl ?_
                  refine s_bipush (v := 111) hP t129_110 (by decide) ?_
                  refine s_icmp_ne hP t129_112 (fun q112 => ?_) (fun q112 => ?_)
                  · refine s_iload_n hP t129_120 rfl ?_
                    refine s_bipush (v := 118) hP t129_121 (by decide) ?_
                    refine s_icmp_ne hP t129_123 (fun q123 => ?_) (fun q123 => ?_)
                    · exact absurd rfl q123
                    · refine s_aload_n hP t129_126 rfl ?_
                      refine s_getfield hP t129_127 rfl rfl ?_
                      refine s_iload_n hP t129_130 rfl ?_
                      refine s_bipush (v := (-50)) hP t129_131 (by decide) ?_
                      refine s_iload_n hP t129_133 rfl ?_
                      refine s_iload hP t129_134 rfl ?_
                      refine s_iadd hP t129_136 ?_
                      refine s_bipush (v := 50) hP t129_137 (by decide) ?_
                      refine s_icmp_ge hP t129_139 (fun q139 => ?_) (fun q139 => ?_)
                      · refine s_bipush (v := 50) hP t129_149 (by decide) ?_
                        refine s_invokestatic (bc' := 0) (bs' := 0) hP t129_151 rfl rfl rfl rfl rfl ?_
                        refine sp120 ?_
                        refine s_iastore hP t129_154 rfl (mi_iw_in (N := 7) rfl (by decide) q52) ?_
                        refine s_bipush (v := 45) hP t129_155 (by decide) ?_
                        refine s_ireturn hP t129_157 rfl rfl ?_
                        rw [← mt_clip, if_pos q139] at k45
                        exact k45 q52
                      · refine s_iload_n hP t129_142 rfl ?_
                        refine s_iload hP t129_143 rfl ?_
                        refine s_iadd hP t129_145 ?_
                        refine s_goto hP t129_146 ?_
                        refine s_invokestatic (bc' := 0) (bs' := 0) hP t129_151 rfl rfl rfl rfl rfl ?_
                        refine sp120 ?_
                        refine s_iastore hP t129_154 rfl (mi_iw_in (N := 7) rfl (by decide) q52) ?_
                        refine s_bipush (v := 45) hP t129_155 (by decide) ?_
                        refine s_ireturn hP t129_157 rfl rfl ?_
                        rw [← mt_clip, if_neg q139] at k45
                        exact k45 q52
                  · exact absurd q112 (by decide)
                · exact absurd q92 (by decide)
              · exact absurd q81 (by decide)
            · exact absurd q61 (by decide)
          · refine s_bipush (v := 110) hP t129_55 (by decide) ?_
            refine s_ireturn hP t129_57 rfl rfl ?_
            exact k110 q52
        · exact absurd q39 (by decide)
    · exact absurd q14 (by decide)
  · exact absurd q3 (by decide)
set_option maxHeartbeats 2000000 in
theorem sp130_114 {d : Nat} {K : am_K} {ha : Nat → Nat → Int32} {hz : Int32} {a1 : Nat → Nat → Int32} {s1 : Nat → Int32} {t1 : UInt32} {a2 : Nat → Nat → Int32} {s2 : Nat → Int32} {t2 : UInt32} {al : Int32} {ma : Nat → Nat → Int32} {ms : Nat → Int32} {mt : UInt32} {ol : Nat → Int64} {od : Nat → UInt64} {x y : Int32} {N j : Nat} (hN : ms 17 = nI N) (hN9 : N < 64) (hc : mw_cl (ma 1) N j) (hj9 : j < 64) (hop : mi_op (ma 1 N) = true) (k110 : mi_iw x 0 9 = false → K (some (.int 110)) (am_W ha hz a1 s1 t1 a2 s2 t2 al ma ms mt ol od)) (k1 : mi_iw x 0 9 = true → 0 < x → K (some (.int 45)) (am_W ha hz a1 s1 t1 a2 s2 t2 al (am_u2 ma 8 (upd (ma 8) N x)) ms mt ol od)) (k0 : mi_iw x 0 9 = true → ¬ 0 < x → K (some (.int 45)) (am_W ha hz a1 s1 t1 a2 s2 t2 al (am_u2 ma 8 (upd (ma 8) N x)) (am_u1 ms 17 (nI j)) mt ol od)) : am_Run (d + 3) 130 [.ref 39, .int 114, .int x, .int y] (am_W ha hz a1 s1 t1 a2 s2 t2 al ma ms mt ol od) K := by
  refine ⟨rfl, fun P hm hP => ?_⟩
  show P 0 [some (.ref 39), some (.int 114), some (.int x), some (.int y), none] [] _ 0 0
  refine s_iload_n hP t130_0 rfl ?_
  refine s_bipush (v := 114) hP t130_1 (by decide) ?_
  refine s_icmp_ne hP t130_3 (fun q3 => ?_) (fun q3 => ?_)
  · exact absurd rfl q3
  · refine s_iload_n hP t130_6 rfl ?_
    refine s_iconst (v := 0) hP t130_7 (by decide) ?_
    refine s_bipush (v := 9) hP t130_8 (by decide) ?_
    refine s_invokestatic (bc' := 0) (bs' := 0) hP t130_10 rfl rfl rfl rfl rfl ?_
    refine sp97 ?_
    refine s_zne hP t130_13 (fun q13 => ?_) (fun q13 => ?_)
    · refine s_iload_n hP t130_19 rfl ?_
      refine s_bipush (v := 114) hP t130_20 (by decide) ?_
      refine s_icmp_ne hP t130_22 (fun q22 => ?_) (fun q22 => ?_)
      · exact absurd rfl q22
      · refine s_iload_n hP t130_25 rfl ?_
        refine s_if_le hP t130_26 (fun q26 => ?_) (fun q26 => ?_)
        · refine s_iconst (v := 0) hP t130_33 (by decide) ?_
          refine s_goto hP t130_34 ?_
          refine s_istore_4 hP t130_47 (by exact rfl) ?_
          refine s_aload_n hP t130_49 rfl ?_
          refine s_getfield hP t130_50 rfl rfl ?_
          refine s_aload_n hP t130_53 rfl ?_
          refine s_getfield hP t130_54 rfl rfl ?_
          refine s_iload_n hP t130_57 rfl ?_
          refine s_iastore hP t130_58 rfl (by rw [hN]; exact vp_in_nI (by omega) (by decide)) ?_
          rw [hN, nI_clamp (by omega)]
          refine s_aload_n hP t130_59 rfl ?_
          refine s_iload hP t130_60 rfl ?_
          refine s_if_eq hP t130_62 (fun q62 => ?_) (fun q62 => ?_)
          · refine s_aload_n hP t130_72 rfl ?_
            refine s_aload_n hP t130_73 rfl ?_
            refine s_getfield hP t130_74 rfl rfl ?_
            refine s_invokevirtual (bc' := 0) (bs' := 0) hP t130_77 rfl rfl rfl rfl rfl ?_
            rw [hN]
            refine sp114 (ma := am_u2 ma 8 (upd (ma 8) N x)) (j := j) (hc := hc) (hj9 := hj9) (hop := hop) ?_
            refine s_putfield hP t130_80 rfl rfl rfl rfl ?_
            refine s_bipush (v := 45) hP t130_83 (by decide) ?_
            refine s_ireturn hP t130_85 rfl rfl ?_
            exact k0 q13 (Int32.not_lt.mpr q26)
          · exact absurd rfl q62
        · refine s_iconst (v := 1) hP t130_29 (by decide) ?_
          refine s_goto hP t130_30 ?_
          refine s_istore_4 hP t130_47 (by exact rfl) ?_
          refine s_aload_n hP t130_49 rfl ?_
          refine s_getfield hP t130_50 rfl rfl ?_
          refine s_aload_n hP t130_53 rfl ?_
          refine s_getfield hP t130_54 rfl rfl ?_
          refine s_iload_n hP t130_57 rfl ?_
          refine s_iastore hP t130_58 rfl (by rw [hN]; exact vp_in_nI (by omega) (by decide)) ?_
          rw [hN, nI_clamp (by omega)]
          refine s_aload_n hP t130_59 rfl ?_
          refine s_iload hP t130_60 rfl ?_
          refine s_if_eq hP t130_62 (fun q62 => ?_) (fun q62 => ?_)
          · exact absurd q62 (by decide)
          · refine s_aload_n hP t130_65 rfl ?_
            refine s_getfield hP t130_66 rfl rfl ?_
            refine s_goto hP t130_69 ?_
            refine s_putfield hP t130_80 rfl rfl rfl rfl ?_
            refine s_bipush (v := 45) hP t130_83 (by decide) ?_
            refine s_ireturn hP t130_85 rfl rfl ?_
            exact k1 q13 (Int32.not_le.mp q26)
    · refine s_bipush (v := 110) hP t130_16 (by decide) ?_
      refine s_ireturn hP t130_18 rfl rfl ?_
      exact k110 q13
set_option maxHeartbeats 2000000 in
theorem sp130_105 {d : Nat} {K : am_K} {ha : Nat → Nat → Int32} {hz : Int32} {a1 : Nat → Nat → Int32} {s1 : Nat → Int32} {t1 : UInt32} {a2 : Nat → Nat → Int32} {s2 : Nat → Int32} {t2 : UInt32} {al : Int32} {ma : Nat → Nat → Int32} {ms : Nat → Int32} {mt : UInt32} {ol : Nat → Int64} {od : Nat → UInt64} {x y : Int32} {N j : Nat} (hN : ms 17 = nI N) (hN9 : N < 64) (hc : mw_cl (ma 1) N j) (hj9 : j < 64) (hop : mi_op (ma 1 N) = true) (k1 : y < x → K (some (.int 45)) (am_W ha hz a1 s1 t1 a2 s2 t2 al (am_u2 ma 8 (upd (ma 8) N x)) ms mt ol od)) (k0 : ¬ y < x → K (some (.int 45)) (am_W ha hz a1 s1 t1 a2 s2 t2 al (am_u2 ma 8 (upd (ma 8) N x)) (am_u1 ms 17 (nI j)) mt ol od)) : am_Run (d + 3) 130 [.ref 39, .int 105, .int x, .int y] (am_W ha hz a1 s1 t1 a2 s2 t2 al ma ms mt ol od) K := by
  refine ⟨rfl, fun P hm hP => ?_⟩
  show P 0 [some (.ref 39), some (.int 105), some (.int x), some (.int y), none] [] _ 0 0
  refine s_iload_n hP t130_0 rfl ?_
  refine s_bipush (v := 114) hP t130_1 (by decide) ?_
  refine s_icmp_ne hP t130_3 (fun q3 => ?_) (fun q3 => ?_)
  · refine s_iload_n hP t130_19 rfl ?_
    refine s_bipush (v := 114) hP t130_20 (by decide) ?_
    refine s_icmp_ne hP t130_22 (fun q22 => ?_) (fun q22 => ?_)
    · refine s_iload_n hP t130_37 rfl ?_
      refine s_iload_n hP t130_38 rfl ?_
      refine s_icmp_le hP t130_39 (fun q39 => ?_) (fun q39 => ?_)
      · refine s_iconst (v := 0) hP t130_46 (by decide) ?_
        refine s_istore_4 hP t130_47 (by exact rfl) ?_
        refine s_aload_n hP t130_49 rfl ?_
        refine s_getfield hP t130_50 rfl rfl ?_
        refine s_aload_n hP t130_53 rfl ?_
        refine s_getfield hP t130_54 rfl rfl ?_
        refine s_iload_n hP t130_57 rfl ?_
        refine s_iastore hP t130_58 rfl (by rw [hN]; exact vp_in_nI (by omega) (by decide)) ?_
        rw [hN, nI_clamp (by omega)]
        refine s_aload_n hP t130_59 rfl ?_
        refine s_iload hP t130_60 rfl ?_
        refine s_if_eq hP t130_62 (fun q62 => ?_) (fun q62 => ?_)
        · refine s_aload_n hP t130_72 rfl ?_
          refine s_aload_n hP t130_73 rfl ?_
          refine s_getfield hP t130_74 rfl rfl ?_
          refine s_invokevirtual (bc' := 0) (bs' := 0) hP t130_77 rfl rfl rfl rfl rfl ?_
          rw [hN]
          refine sp114 (ma := am_u2 ma 8 (upd (ma 8) N x)) (j := j) (hc := hc) (hj9 := hj9) (hop := hop) ?_
          refine s_putfield hP t130_80 rfl rfl rfl rfl ?_
          refine s_bipush (v := 45) hP t130_83 (by decide) ?_
          refine s_ireturn hP t130_85 rfl rfl ?_
          exact k0 (Int32.not_lt.mpr q39)
        · exact absurd rfl q62
      · refine s_iconst (v := 1) hP t130_42 (by decide) ?_
        refine s_goto hP t130_43 ?_
        refine s_istore_4 hP t130_47 (by exact rfl) ?_
        refine s_aload_n hP t130_49 rfl ?_
        refine s_getfield hP t130_50 rfl rfl ?_
        refine s_aload_n hP t130_53 rfl ?_
        refine s_getfield hP t130_54 rfl rfl ?_
        refine s_iload_n hP t130_57 rfl ?_
        refine s_iastore hP t130_58 rfl (by rw [hN]; exact vp_in_nI (by omega) (by decide)) ?_
        rw [hN, nI_clamp (by omega)]
        refine s_aload_n hP t130_59 rfl ?_
        refine s_iload hP t130_60 rfl ?_
        refine s_if_eq hP t130_62 (fun q62 => ?_) (fun q62 => ?_)
        · exact absurd q62 (by decide)
        · refine s_aload_n hP t130_65 rfl ?_
          refine s_getfield hP t130_66 rfl rfl ?_
          refine s_goto hP t130_69 ?_
          refine s_putfield hP t130_80 rfl rfl rfl rfl ?_
          refine s_bipush (v := 45) hP t130_83 (by decide) ?_
          refine s_ireturn hP t130_85 rfl rfl ?_
          exact k1 (Int32.not_le.mp q39)
    · exact absurd q22 (by decide)
  · exact absurd q3 (by decide)
set_option maxHeartbeats 2000000 in
theorem sp131 {d : Nat} {K : am_K} {ha : Nat → Nat → Int32} {hz : Int32} {a1 : Nat → Nat → Int32} {s1 : Nat → Int32} {t1 : UInt32} {a2 : Nat → Nat → Int32} {s2 : Nat → Int32} {t2 : UInt32} {al : Int32} {ma : Nat → Nat → Int32} {ms : Nat → Int32} {mt : UInt32} {ol : Nat → Int64} {od : Nat → UInt64} {p j : Nat} (hN : ms 17 = nI j) (hc : mw_cl (ma 1) p j) (hj9 : j < 64) (hop : mi_op (ma 1 p) = true) (hok : mw_ok (ma 1) j) (ki : ma 1 p = 105 → K none (am_W ha hz a1 s1 t1 a2 s2 t2 al ma ms mt ol od)) (k1 : ¬ ma 1 p = 105 → 0 < ma 8 p - 1 → K none (am_W ha hz a1 s1 t1 a2 s2 t2 al (am_u2 ma 8 (upd (ma 8) p (ma 8 p - 1))) (am_u1 ms 17 (nI p)) mt ol od)) (k0 : ¬ ma 1 p = 105 → ¬ 0 < ma 8 p - 1 → K none (am_W ha hz a1 s1 t1 a2 s2 t2 al (am_u2 ma 8 (upd (ma 8) p (ma 8 p - 1))) ms mt ol od)) : am_Run (d + 3) 131 [.ref 39] (am_W ha hz a1 s1 t1 a2 s2 t2 al ma ms mt ol od) K := by
  refine ⟨rfl, fun P hm hP => ?_⟩
  show P 0 [some (.ref 39), none] [] _ 0 0
  have hpj := hc.1
  refine s_aload_n hP t131_0 rfl ?_
  refine s_aload_n hP t131_1 rfl ?_
  refine s_getfield hP t131_2 rfl rfl ?_
  refine s_invokevirtual (bc' := 0) (bs' := 0) hP t131_5 rfl rfl rfl rfl rfl ?_
  rw [hN]
  refine sp115 (p := p) (hc := hc) (hj9 := hj9) (hop := hop) (hok := hok) ?_
  refine s_istore_n_1 hP t131_8 (by exact rfl) ?_
  refine s_aload_n hP t131_9 rfl ?_
  refine s_getfield hP t131_10 rfl rfl ?_
  refine s_iload_n hP t131_13 rfl ?_
  refine s_caload hP t131_14 rfl (vp_in_nI (by omega) (by decide)) ?_
  rw [nI_clamp (by omega)]
  refine s_bipush (v := 105) hP t131_15 (by decide) ?_
  refine s_icmp_ne hP t131_17 (fun q17 => ?_) (fun q17 => ?_)
  · refine s_aload_n hP t131_21 rfl ?_
    refine s_getfield hP t131_22 rfl rfl ?_
    refine s_iload_n hP t131_25 rfl ?_
    refine s_dup2 hP t131_26 rfl rfl ?_
    refine s_iaload hP t131_27 rfl (vp_in_nI (by omega) (by decide)) ?_
    rw [nI_clamp (by omega)]
    refine s_iconst (v := 1) hP t131_28 (by decide) ?_
    refine s_isub hP t131_29 ?_
    refine s_iastore hP t131_30 rfl (vp_in_nI (by omega) (by decide)) ?_
    rw [nI_clamp (by omega)]
    refine s_aload_n hP t131_31 rfl ?_
    refine s_getfield hP t131_32 rfl rfl ?_
    refine s_iload_n hP t131_35 rfl ?_
    refine s_iaload hP t131_36 rfl (vp_in_nI (by omega) (by decide)) ?_
    rw [nI_clamp (by omega)]
    refine s_if_le hP t131_37 (fun q37 => ?_) (fun q37 => ?_)
    · refine s_return_ hP t131_45 rfl ?_
      exact k0 q17 (fun q => absurd q (Int32.not_lt.mpr (by rw [← show upd (ma 8) p (ma 8 p - 1) p = ma 8 p - 1 from pk_us]; exact q37)))
    · refine s_aload_n hP t131_40 rfl ?_
      refine s_iload_n hP t131_41 rfl ?_
      refine s_putfield hP t131_42 rfl rfl rfl rfl ?_
      refine s_return_ hP t131_45 rfl ?_
      exact k1 q17 (by rw [← show upd (ma 8) p (ma 8 p - 1) p = ma 8 p - 1 from pk_us]; exact Int32.not_le.mp q37)
  · refine s_return_ hP t131_20 rfl ?_
    exact ki q17
