/-! TWO STATES THAT ARE THE SAME WHERE IT COUNTS: one block keeps them so. -/
theorem mc_val_cg {V W : Nat → Int32} {x : Int32} (h : ∀ j, j < 8 → V j = W j) : mc_val V x = mc_val W x := by
  rw [mc_val, mc_val]
  split
  · rename_i q
    obtain ⟨n, hn, e⟩ := mi_iw_nI (N := 7) rfl (by decide) q
    rw [e, nI_clamp (by omega)]
    exact h n (by omega)
  · rfl
theorem mc_worn_cg {li us vs : Nat → Int32} {x : Int32} (h : ∀ c, c < 12 → us c = vs c) : mc_worn li us x = mc_worn li vs x := by
  rw [mc_worn, mc_worn]
  by_cases q : mi_iw x 0 11 = true
  · obtain ⟨n, hn, e⟩ := mi_iw_nI (N := 11) rfl (by decide) q
    have e2 : x.toNatClampNeg = n := by rw [e]; exact nI_clamp (by omega)
    rw [e2, h n (by omega)]
  · rw [(Bool.not_eq_true _).mp q, Bool.false_and, Bool.false_and]
theorem mc_take_cg {ha : Nat → Nat → Int32} {us vs : Nat → Int32} {A B : Nat} (hA : A < 3) (hB : B < 4) (h : ∀ c, c < 12 → us c = vs c) : mc_take ha us A B = mc_take ha vs A B := by
  rw [mc_take, mc_take, mc_first_cg (4 - B) B (fun j h1 h2 => ?_)]
  rw [mc_p, mc_p, h _ (by omega)]
theorem mc_tool_cg {ha : Nat → Nat → Int32} {us vs : Nat → Int32} {k a b sl sp : Int32} (h16 : k = 116 → ∃ A B, a = nI A ∧ b = nI B ∧ A < 3 ∧ B < 4) (h : ∀ c, c < 12 → us c = vs c) : mc_tool ha us k a b sl sp = mc_tool ha vs k a b sl sp := by
  rw [mc_tool, mc_tool, mc_worn_cg h]
  by_cases hk : k = 116
  · obtain ⟨A, B, rfl, rfl, hA, hB⟩ := h16 hk
    rw [if_pos hk, if_pos hk, nI_clamp (by omega), nI_clamp (by omega), mc_take_cg hA hB h]
  · rw [if_neg hk, if_neg hk]
theorem mx_es_cg {ha a b : Nat → Nat → Int32} {q r : Nat → Int32} (hq : ∀ j, 8 ≤ j → j ≤ 19 → j ≠ 11 → q j = r j) (h3 : ∀ j, j < 3 → a 3 j = b 3 j) : mx_es ha a q = mx_es ha b r := by
  have hb : ∀ i, i < 3 → mb_b ha a q i = mb_b ha b r i := fun i hi => by
    rw [mb_b, mb_b, hq 14 (by omega) (by omega) (by omega), hq 13 (by omega) (by omega) (by omega), h3 i hi]
  rw [mx_es, mx_es, hb 0 (by omega), hb 1 (by omega), hb 2 (by omega), h3 0 (by omega), h3 1 (by omega), h3 2 (by omega), hq 16 (by omega) (by omega) (by omega), hq 17 (by omega) (by omega) (by omega), hq 18 (by omega) (by omega) (by omega), hq 19 (by omega) (by omega) (by omega)]
theorem ml_hit_cg {S S' : Nat → Bool} {s R : Nat} {es : List ml_L} (h : ∀ q, q < 1152 → S q = S' q) : ml_hit S s R es ↔ ml_hit S' s R es := by
  constructor
  · rintro ⟨e, he, k, h1, h2, q, hq, h3, h4⟩
    exact ⟨e, he, k, h1, h2, q, hq, by rw [← h q hq]; exact h3, h4⟩
  · rintro ⟨e, he, k, h1, h2, q, hq, h3, h4⟩
    exact ⟨e, he, k, h1, h2, q, hq, by rw [h q hq]; exact h3, h4⟩
theorem mx_meet_cg {S S' : Nat → Bool} {s R X Y Z : Nat} (h : ∀ q, q < 1152 → S q = S' q) : mx_meet S s R X Y Z ↔ mx_meet S' s R X Y Z := by
  constructor
  · rintro ⟨q, hq, h3, h4⟩
    exact ⟨q, hq, by rw [← h q hq]; exact h3, h4⟩
  · rintro ⟨q, hq, h3, h4⟩
    exact ⟨q, hq, by rw [h q hq]; exact h3, h4⟩
theorem me_cell_cg {k sl : Int32} {S S' T : Nat → Bool} {s R X Y Z : Nat} {es : List ml_L} (h : ∀ q, q < 1152 → S q = S' q) : me_cell k sl S T s R X Y Z es = me_cell k sl S' T s R X Y Z es := by
  rw [me_cell, me_cell, propext (ml_hit_cg (s := s) (R := R) (es := es) h), propext (mx_meet_cg (s := s) (R := R) (X := X) (Y := Y) (Z := Z) h)]
theorem mx_al_cg {ha a b : Nat → Nat → Int32} {q r : Nat → Int32} {S S' T : Nat → Bool} {s R X Y Z : Nat} (hq : ∀ j, 8 ≤ j → j ≤ 19 → j ≠ 11 → q j = r j) (h1 : ∀ c, c < 12 → a 1 c = b 1 c) (h3 : ∀ j, j < 3 → a 3 j = b 3 j) (hS : ∀ q, q < 1152 → S q = S' q) : mx_al ha S T a q s R X Y Z = mx_al ha S' T b r s R X Y Z := by
  have e16 := hq 16 (by omega) (by omega) (by omega)
  have e17 := hq 17 (by omega) (by omega) (by omega)
  have e18 := hq 18 (by omega) (by omega) (by omega)
  have e19 := hq 19 (by omega) (by omega) (by omega)
  have e10 := hq 10 (by omega) (by omega) (by omega)
  rw [mx_al, mx_al, mx_es_cg hq h3, me_cell_cg hS, e16, e17, e18, e19, e10]
  by_cases ht : mc_told ha (r 16) (r 17) (r 18) (r 19) = false
  · rw [if_pos ht, if_pos ht]
  · have ht2 : mc_told ha (r 16) (r 17) (r 18) (r 19) = true := (Bool.not_eq_false _).mp ht
    have et : mx_tool ha a q = mx_tool ha b r := by
      rw [mx_tool, mx_tool, e16, e17, e18, e10, hq 15 (by omega) (by omega) (by omega)]
      exact mc_tool_cg (fun k => mc_told_116 k ht2) h1
    rw [et]
theorem mx_S_cg {ha a b : Nat → Nat → Int32} {q r : Nat → Int32} {S S' : Nat → Bool} {s R : Nat} (hq : ∀ j, 8 ≤ j → j ≤ 19 → j ≠ 11 → q j = r j) (h3 : ∀ j, j < 3 → a 3 j = b 3 j) (hS : ∀ q, q < 1152 → S q = S' q) : ∀ p, p < 1152 → mx_S ha a q s R S p = mx_S ha b r s R S' p := by
  intro p hp
  rw [mx_S, mx_S, hq 16 (by omega) (by omega) (by omega), mx_es_cg hq h3]
  split
  · exact ml_cut_cg _ hS p hp
  · exact hS p hp
theorem mx_u_cg {ha a b : Nat → Nat → Int32} {q r : Nat → Int32} {S S' : Nat → Bool} {s R : Nat} (hq : ∀ j, 8 ≤ j → j ≤ 19 → j ≠ 11 → q j = r j) (hsl : (q 10).toNatClampNeg < 12) (h1 : ∀ c, c < 12 → a 1 c = b 1 c) (h3 : ∀ j, j < 3 → a 3 j = b 3 j) (hS : ∀ q, q < 1152 → S q = S' q) : ∀ c, c < 12 → mx_u ha a q s R S c = mx_u ha b r s R S' c := by
  intro c hc
  rw [hq 10 (by omega) (by omega) (by omega)] at hsl
  rw [mx_u, mx_u, hq 16 (by omega) (by omega) (by omega), hq 10 (by omega) (by omega) (by omega), mx_es_cg hq h3, ml_cc_cg _ hS]
  split
  · by_cases hcc : c = (r 10).toNatClampNeg
    · rw [hcc]
      refine pk_us.trans (Eq.trans ?_ pk_us.symm)
      rw [h1 _ hsl]
    · exact (pk_un hcc).trans ((h1 c hc).trans (pk_un hcc).symm)
  · exact h1 c hc
theorem mx_p_cg {ha a b : Nat → Nat → Int32} {q r : Nat → Int32} (hq : ∀ j, 8 ≤ j → j ≤ 19 → j ≠ 11 → q j = r j) (h3 : ∀ j, j < 3 → a 3 j = b 3 j) : ∀ j, j < 3 → mx_p ha a q j = mx_p ha b r j := by
  intro j hj
  have hb : ∀ i, i < 3 → mb_b ha a q i = mb_b ha b r i := fun i hi => by
    rw [mb_b, mb_b, hq 14 (by omega) (by omega) (by omega), hq 13 (by omega) (by omega) (by omega), h3 i hi]
  rw [mx_p, mx_p, mp_3_j hj, mp_3_j hj, hb 0 (by omega), hb 1 (by omega), hb 2 (by omega), h3 0 (by omega), h3 1 (by omega), h3 2 (by omega), hq 16 (by omega) (by omega) (by omega), hq 17 (by omega) (by omega) (by omega), hq 18 (by omega) (by omega) (by omega), hq 19 (by omega) (by omega) (by omega)]
theorem mx_t_cg {ha a b : Nat → Nat → Int32} {q r : Nat → Int32} {t : UInt32} (hq : ∀ j, 8 ≤ j → j ≤ 19 → j ≠ 11 → q j = r j) (h3 : ∀ j, j < 3 → a 3 j = b 3 j) : mx_t ha a q t = mx_t ha b r t := by
  rw [mx_t, mx_t, mx_f, mx_f, mx_es_cg hq h3, hq 16 (by omega) (by omega) (by omega), hq 12 (by omega) (by omega) (by omega)]
/-- where the next block is -/
theorem sx_stack {ha : Nat → Nat → Int32} {hz : Int32} {N M : Nat} {a : Nat → Nat → Int32} {q : Nat → Int32} (hN : q 8 = nI N) (hNM : N < M) (hM : hz = nI M) (hM9 : M ≤ 64) (h16 : q 16 = ha 5 N) (hW : mw_W (ha 5) M) (hP9 : mw_P (ha 5) (ha 9) M) : ∃ N', me_nx ha hz N a q = nI N' ∧ N' ≤ M ∧ ∀ p, p ∈ mw_st (ha 5) N' → p ≠ N → p ∈ mw_st (ha 5) N := by
  by_cases h1 : q 16 = 114 ∨ q 16 = 105
  · have hop : mi_op (ha 5 N) = true := by
      rw [← h16, mi_op, Bool.or_eq_true, decide_eq_true_eq, decide_eq_true_eq]
      exact h1
    rw [me_nx, if_pos h1]
    split
    · refine ⟨N + 1, by rw [hN, nI_1], by omega, fun p hp hn => ?_⟩
      rw [mw_push hop] at hp
      exact (List.mem_cons.mp hp).resolve_left hn
    · obtain ⟨j, hj, hc, hpt⟩ := mw_W_o hW hP9 hNM hop
      refine ⟨j + 1, by rw [hpt, nI_1], by omega, fun p hp hn => ?_⟩
      rw [mw_pop hc.2.1, hc.2.2.1, List.tail_cons] at hp
      exact hp
  · by_cases h2 : q 16 = 101
    · rw [me_nx, if_neg h1, if_pos h2, me_cn]
      have hk : ha 5 N = 101 := h16.symm.trans h2
      obtain ⟨p, r, hst, hpt, hpN, hop, hr⟩ := mw_W_e hW hP9 hNM hk
      split
      · refine ⟨p + 1, by rw [hpt, nI_1], by omega, fun x hx hn => ?_⟩
        rw [mw_push hop] at hx
        rw [hst, hr]
        exact hx
      · refine ⟨N + 1, by rw [hN, nI_1], by omega, fun x hx hn => ?_⟩
        rw [mw_pop hk] at hx
        exact List.mem_of_mem_tail hx
    · refine ⟨N + 1, by rw [me_nx_no h1 h2, hN, nI_1], by omega, fun x hx hn => ?_⟩
      rw [mw_same (fun r => ?_) (fun r => h2 (h16.trans r))] at hx
      · exact hx
      · rw [mi_op, Bool.or_eq_true, decide_eq_true_eq, decide_eq_true_eq] at r
        rw [← h16] at r
        exact h1 r
set_option maxHeartbeats 1000000 in
theorem sx_go_cg {ha : Nat → Nat → Int32} {hz : Int32} {N M : Nat} {a b : Nat → Nat → Int32} {q r : Nat → Int32} {S S' : Nat → Bool} {s R X Y Z : Nat} {t : UInt32} (hN : q 8 = nI N) (hNM : N < M) (hM : hz = nI M) (hM9 : M ≤ 64) (h16 : q 16 = ha 5 N) (hW : mw_W (ha 5) M) (hP9 : mw_P (ha 5) (ha 9) M) (hq : ∀ j, 8 ≤ j → j ≤ 19 → j ≠ 11 → q j = r j) (hsl : (q 10).toNatClampNeg < 12) (ht : mc_told ha (q 16) (q 17) (q 18) (q 19) = true) (h1 : ∀ c, c < 12 → a 1 c = b 1 c) (h2 : ∀ j, j < 8 → a 2 j = b 2 j) (h3 : ∀ j, j < 3 → a 3 j = b 3 j) (h4 : ∀ p, p ∈ mw_st (ha 5) N → ha 5 p = 114 → a 4 p = b 4 p) (hS : ∀ q, q < 1152 → S q = S' q) : sx_E (ha 5) (mx_Q ha hz N a q s R S 8).toNatClampNeg (sx_go ha hz N a q s R X Y Z S t) (sx_go ha hz N b r s R X Y Z S' t) := by
  have e8 := hq 8 (by omega) (by omega) (by omega)
  have e9 := hq 9 (by omega) (by omega) (by omega)
  have e16 := hq 16 (by omega) (by omega) (by omega)
  have e17 := hq 17 (by omega) (by omega) (by omega)
  have e18 := hq 18 (by omega) (by omega) (by omega)
  have e19 := hq 19 (by omega) (by omega) (by omega)
  have hu := mx_u_cg (ha := ha) (s := s) (R := R) hq hsl h1 h3 hS
  obtain ⟨N', hN', hN9, hst⟩ := sx_stack (a := mx_a ha a q s R S) hN hNM hM hM9 h16 hW hP9
  have hlv : mx_lv (mx_S ha a q s R S) s R X Y Z = mx_lv (mx_S ha b r s R S') s R X Y Z := by
    rw [mx_lv, mx_lv]
    congr 1
    funext l
    rw [propext (mx_meet_cg (mx_S_cg hq h3 hS))]
  have hp101 : q 16 = 101 → me_loop ha hz N = true → ∃ p, ha 9 N = nI p ∧ p < N ∧ ha 5 p = 114 ∧ p ∈ mw_st (ha 5) N := by
    intro g1 g2
    obtain ⟨p, r9, hst, hpt, hpN, hop, hr⟩ := mw_W_e hW hP9 hNM (h16.symm.trans g1)
    refine ⟨p, hpt, hpN, ?_, by rw [hst]; exact List.mem_cons_self⟩
    rw [me_loop, hpt, nI_clamp (by omega), Bool.and_eq_true, decide_eq_true_eq] at g2
    exact g2.2
  have hnx : me_nx ha hz N (mx_a ha a q s R S) q = me_nx ha hz N (mx_a ha b r s R S') r := by
    rw [me_nx, me_nx, e8, e16, e17, e18]
    split
    · rfl
    · split
      · rename_i g
        rw [me_cn, me_cn, e8, mx_a_4, mx_a_4]
        by_cases gl : me_loop ha hz N = true
        · obtain ⟨p, g1, g2, g3, g4⟩ := hp101 (e16.trans g) gl
          rw [g1, nI_clamp (by omega), h4 p g4 g3]
        · rw [if_neg (fun g => gl g.1), if_neg (fun g => gl g.1)]
      · rfl
  refine ⟨fun c hc => ?_, fun j hj => ?_, fun j hj => ?_, fun p hp h5 => ?_, fun j hj hj2 hj3 => ?_, mx_t_cg hq h3, mx_S_cg hq h3 hS⟩
  · show mx_A ha hz N a q s R X Y Z S 1 c = mx_A ha hz N b r s R X Y Z S' 1 c
    rw [mx_A, mx_A, me_ar_1, me_ar_1, mx_a_1, mx_a_1]
    exact hu c hc
  · show mx_A ha hz N a q s R X Y Z S 2 j = mx_A ha hz N b r s R X Y Z S' 2 j
    rw [mx_A, mx_A, hlv]
    by_cases g1 : q 16 = 118
    · rw [me_ar, me_ar, if_pos g1, if_pos (e16.symm.trans g1), e17, e18, e19]
      show upd (a 2) _ _ j = upd (b 2) _ _ j
      by_cases hjj : j = (r 17).toNatClampNeg
      · rw [hjj]; exact pk_us.trans pk_us.symm
      · exact (pk_un hjj).trans ((h2 j hj).trans (pk_un hjj).symm)
    · by_cases g2 : q 16 = 120
      · rw [me_ar, me_ar, if_neg g1, if_neg (fun g => g1 (e16.trans g)), if_pos g2, if_pos (e16.symm.trans g2), e17]
        show upd (a 2) _ _ j = upd (b 2) _ _ j
        by_cases hjj : j = (r 17).toNatClampNeg
        · rw [hjj]; exact pk_us.trans pk_us.symm
        · exact (pk_un hjj).trans ((h2 j hj).trans (pk_un hjj).symm)
      · rw [me_ar_2 g1 g2, me_ar_2 (fun g => g1 (e16.trans g)) (fun g => g2 (e16.trans g))]
        exact h2 j hj
  · show mx_A ha hz N a q s R X Y Z S 3 j = mx_A ha hz N b r s R X Y Z S' 3 j
    rw [mx_A, mx_A, me_ar_3, me_ar_3, mx_a_3, mx_a_3]
    exact mx_p_cg hq h3 j hj
  · show mx_A ha hz N a q s R X Y Z S 4 p = mx_A ha hz N b r s R X Y Z S' 4 p
    have hp9 : p ∈ mw_st (ha 5) N' := by
      rw [mx_Q_8, hN', nI_clamp (by omega)] at hp
      exact hp
    rw [mx_A, mx_A]
    by_cases g3 : q 16 = 114 ∨ q 16 = 105
    · have g3' : r 16 = 114 ∨ r 16 = 105 := by rw [← e16]; exact g3
      have n1 : ¬ q 16 = 118 := fun g => by rw [g] at g3; exact absurd g3 (by decide)
      have n2 : ¬ q 16 = 120 := fun g => by rw [g] at g3; exact absurd g3 (by decide)
      rw [me_ar, me_ar, if_neg n1, if_neg n2, if_neg (fun g => n1 (e16.trans g)), if_neg (fun g => n2 (e16.trans g)), if_pos g3, if_pos g3', e16, e17, e18]
      by_cases hpn : p = N
      · subst hpn
        split
        · exact pk_us.trans pk_us.symm
        · rename_i g
          exfalso
          have hnn := hN'
          rw [me_nx, if_pos g3, e16, e17, e18, if_neg g] at hnn
          obtain ⟨j, hj, hc, hpt⟩ := mw_W_o hW hP9 hNM (by rw [← h16, mi_op, Bool.or_eq_true, decide_eq_true_eq, decide_eq_true_eq]; exact g3)
          rw [hpt, nI_1] at hnn
          have : j + 1 = N' := (nI_inj (by omega) (by omega)).mp hnn
          rw [← this, mw_pop hc.2.1, hc.2.2.1, List.tail_cons] at hp9
          exact absurd (mw_mem hp9).1 (Nat.lt_irrefl _)
      · split
        · exact (pk_un hpn).trans ((h4 p (hst p hp9 hpn) h5).trans (pk_un hpn).symm)
        · exact h4 p (hst p hp9 hpn) h5
    · have hpn : p ≠ N := by
        intro g
        rw [g, ← h16] at h5
        exact g3 (Or.inl h5)
      have h4p := h4 p (hst p hp9 hpn) h5
      by_cases g4 : q 16 = 101
      · have n1 : ¬ q 16 = 118 := fun g => by rw [g] at g4; exact absurd g4 (by decide)
        have n2 : ¬ q 16 = 120 := fun g => by rw [g] at g4; exact absurd g4 (by decide)
        rw [me_ar, me_ar, if_neg n1, if_neg n2, if_neg (fun g => n1 (e16.trans g)), if_neg (fun g => n2 (e16.trans g)), if_neg g3, if_neg (show ¬ (r 16 = 114 ∨ r 16 = 105) from fun g => g3 (by rw [e16]; exact g)), if_pos g4, if_pos (e16.symm.trans g4), me_ca, me_ca]
        by_cases gl : me_loop ha hz N = true
        · obtain ⟨p9, g1, g2, g5, g6⟩ := hp101 g4 gl
          rw [if_pos gl, if_pos gl, g1, nI_clamp (by omega)]
          show upd (a 4) p9 (a 4 p9 - 1) p = upd (b 4) p9 (b 4 p9 - 1) p
          by_cases hpp : p = p9
          · rw [hpp]
            refine pk_us.trans (Eq.trans ?_ pk_us.symm)
            rw [h4 p9 g6 g5]
          · exact (pk_un hpp).trans (h4p.trans (pk_un hpp).symm)
        · rw [if_neg gl, if_neg gl]
          exact h4p
      · rw [me_ar_4 g3 g4, me_ar_4 (fun g => g3 (by rw [e16]; exact g)) (fun g => g4 (e16.trans g))]
        exact h4p
  · show mx_Q ha hz N a q s R S j = mx_Q ha hz N b r s R S' j
    by_cases h18 : j = 8
    · subst h18
      rw [mx_Q_8, mx_Q_8]
      exact hnx
    · by_cases h19 : j = 9
      · subst h19
        rw [mx_Q_9, mx_Q_9, e9]
      · rw [mx_Q_lo h18 h19, mx_Q_lo h18 h19, me_st, me_st, e16, e17, e18]
        have ej := hq j (by omega) (by omega) hj3
        split
        · rename_i g
          obtain ⟨A, B, g1, g2, g5, g6⟩ := mc_told_116 (e16.trans g) ht
          rw [e17] at g1
          rw [e18] at g2
          rw [g1, g2, nI_clamp (by omega), nI_clamp (by omega), mx_a_1, mx_a_1, mc_take_cg g5 g6 hu]
          simp only [am_u1, ej]
        · split
          · simp only [am_u1, ej]
          · split
            · simp only [am_u1, ej]
            · split
              · simp only [am_u1, ej]
              · split
                · simp only [am_u1, ej]
                · exact ej
