/-! WHAT HOLDS OF A STATE, AND GOES ON HOLDING. -/
def sx_H (ha : Nat → Nat → Int32) (hz : Int32) (T : Nat → Bool) (M : Nat) : Prop := hz = nI M ∧ M ≤ 64 ∧ (∀ i, i < M → mi_kind (ha 5 i) = true ∧ mi_term (ha 6 i) = true ∧ mi_term (ha 7 i) = true ∧ mi_term (ha 8 i) = true) ∧ (∀ c, c < 12 → ha 0 c = 0 ∨ ha 0 c = 101 ∨ ha 0 c = 98 ∨ ha 0 c = 118) ∧ (∀ c, c < 12 → ∃ R, R < 4 ∧ ha 1 c = nI R) ∧ (∀ j, j < 12 → -15 ≤ (ha 4 j).toInt ∧ (ha 4 j).toInt ≤ 15) ∧ mw_P (ha 5) (ha 9) M ∧ ∀ j, j < 72 → ha 3 j = mr_w (fun q => T (16 * j + q))
def sx_V (ha : Nat → Nat → Int32) (T : Nat → Bool) (M : Nat) (x : sx_X) : Prop := (∃ N, x.s 8 = nI N ∧ N ≤ M) ∧ (x.s 10 = -1 ∨ ∃ c, x.s 10 = nI c ∧ c < 12 ∧ ¬ ha 0 c = 0) ∧ (∃ F, x.s 12 = nI F ∧ 1 ≤ F ∧ F ≤ 50) ∧ (∃ O, x.s 13 = nI O ∧ O < 4) ∧ (∀ j, j < 8 → mi_iw (x.a 2 j) (-50) 50 = true) ∧ ig_in (x.a 3 0) (x.a 3 1) (x.a 3 2) ∧ ff_ok 156 x.t.toNat ∧ (∀ q, q < 1152 → T q = true → x.S q = true) ∧ mi_sum 12 (x.a 1) = nI (1152 - mr_cnt 1152 x.S)
def sx_N (x : sx_X) : Nat := (x.s 8).toNatClampNeg
def sx_q (ha : Nat → Nat → Int32) (x : sx_X) : Nat → Int32 := mx_q4 ha (sx_N x) x.a x.s
def sx_sh (ha : Nat → Nat → Int32) (x : sx_X) : Nat := if x.s 10 = -1 then 101 else (ha 0 (x.s 10).toNatClampNeg).toNatClampNeg
def sx_R (ha : Nat → Nat → Int32) (x : sx_X) : Nat := if x.s 10 = -1 then 0 else (ha 1 (x.s 10).toNatClampNeg).toNatClampNeg
noncomputable def sx_al (ha : Nat → Nat → Int32) (T : Nat → Bool) (x : sx_X) : Int32 := mx_al ha x.S T x.a (sx_q ha x) (sx_sh ha x) (sx_R ha x) (x.a 3 0).toNatClampNeg (x.a 3 1).toNatClampNeg (x.a 3 2).toNatClampNeg
noncomputable def sx_nx (ha : Nat → Nat → Int32) (hz : Int32) (x : sx_X) : sx_X := sx_go ha hz (sx_N x) x.a (sx_q ha x) (sx_sh ha x) (sx_R ha x) (x.a 3 0).toNatClampNeg (x.a 3 1).toNatClampNeg (x.a 3 2).toNatClampNeg x.S x.t
theorem mi_sum_cg {f g : Nat → Int32} : ∀ n, (∀ i, i < n → f i = g i) → mi_sum n f = mi_sum n g
  | 0, _ => rfl
  | n + 1, h => by rw [mi_sum, mi_sum, mi_sum_cg n (fun i hi => h i (by omega)), h n (by omega)]
theorem mi_sum_upd {f : Nat → Int32} {c : Nat} {v : Int32} : ∀ n, mi_sum n (upd f c (f c + v)) = if c < n then mi_sum n f + v else mi_sum n f
  | 0 => by rw [if_neg (by omega)]; rfl
  | n + 1 => by
    rw [mi_sum, mi_sum, mi_sum_upd n]
    by_cases h : c < n
    · rw [if_pos h, if_pos (by omega), show upd f c (f c + v) n = f n from pk_un (by omega)]
      grind
    · by_cases h2 : c = n
      · subst h2
        rw [if_neg h, if_pos (by omega), show upd f c (f c + v) c = f c + v from pk_us]
        grind
      · rw [if_neg h, if_neg (by omega), show upd f c (f c + v) n = f n from pk_un (by omega)]
theorem mr_cnt_split {p r : Nat → Bool} : ∀ n, mr_cnt n (fun q => p q && r q) + mr_cnt n (fun q => p q && !r q) = mr_cnt n p
  | 0 => rfl
  | n + 1 => by
    have h := mr_cnt_split (p := p) (r := r) n
    simp only [mr_cnt] at h ⊢
    cases p n <;> cases r n <;> simp <;> omega
theorem ml_cc_cut {s R : Nat} : ∀ (l : List ml_P) (S : Nat → Bool), ml_cc s R l S + mr_cnt 1152 (ml_cut s R l S) = mr_cnt 1152 S
  | [], S => by rw [ml_cc, ml_cut]; omega
  | p :: r, S => by
    rw [ml_cc, ml_cut]
    have h1 := ml_cc_cut (s := s) (R := R) r (fun q => S q && !ml_re s R p q)
    have h2 := mr_cnt_split (p := S) (r := fun q => ml_re s R p q) 1152
    omega
theorem ml_cut_keep {s R : Nat} {q : Nat} : ∀ (l : List ml_P) (S : Nat → Bool), S q = true → (∀ p ∈ l, ml_re s R p q = false) → ml_cut s R l S q = true
  | [], S, h, _ => h
  | p :: r, S, h, h2 => by
    rw [ml_cut]
    refine ml_cut_keep r _ ?_ (fun p hp => h2 p (List.mem_cons_of_mem _ hp))
    simp only [h, h2 p List.mem_cons_self, Bool.not_false, Bool.and_self]
theorem ml_pl_mem {e : ml_L} {p : ml_P} : ∀ n, p ∈ ml_pl e n → ∃ k, 1 ≤ k ∧ k ≤ n ∧ p = ml_at e k
  | 0, h => absurd h List.not_mem_nil
  | n + 1, h => by
    rw [ml_pl] at h
    rcases List.mem_append.mp h with h | h
    · obtain ⟨k, h1, h2, h3⟩ := ml_pl_mem n h
      exact ⟨k, h1, by omega, h3⟩
    · rw [List.mem_singleton] at h
      exact ⟨n + 1, by omega, by omega, h⟩
theorem ml_all_cons {e : ml_L} {r : List ml_L} : ml_all (e :: r) = ml_pl e (ml_N e) ++ ml_all r := rfl
theorem ml_all_mem {p : ml_P} (es : List ml_L) : p ∈ ml_all es → ∃ e ∈ es, ∃ k, 1 ≤ k ∧ k ≤ ml_N e ∧ p = ml_at e k := by
  induction es with
  | nil =>
    intro h
    rw [show ml_all [] = [] from rfl] at h
    exact absurd h List.not_mem_nil
  | cons e r ih =>
    intro h
    rw [ml_all_cons] at h
    rcases List.mem_append.mp h with h | h
    · obtain ⟨k, h1, h2, h3⟩ := ml_pl_mem _ h
      exact ⟨e, List.mem_cons_self, k, h1, h2, h3⟩
    · obtain ⟨e2, he, k, h1, h2, h3⟩ := ih h
      exact ⟨e2, List.mem_cons_of_mem _ he, k, h1, h2, h3⟩
theorem mc_val_50 {V : Nat → Int32} {x : Int32} (ht : mi_term x = true) (h : ∀ j, j < 8 → mi_iw (V j) (-50) 50 = true) : mi_iw (mc_val V x) (-50) 50 = true := by
  by_cases h1 : x < 100
  · rw [mi_val_lo ht h1]
    rw [mi_term, Bool.or_eq_true] at ht
    rcases ht with ht | ht
    · exact ht
    · rw [mi_iw, Bool.and_eq_true, decide_eq_true_eq] at ht
      exact absurd h1 (Int32.not_lt.mpr ht.1)
  · have h2 := mi_val_hi ht h1
    rw [mc_val, if_pos h2]
    obtain ⟨n, hn, e⟩ := mi_iw_nI (N := 7) rfl (by decide) h2
    rw [e, nI_clamp (by omega)]
    exact h n (by omega)
theorem mc_clip_50 (x : Int32) : mi_iw (mc_clip x) (-50) 50 = true := by
  rw [mc_clip, mi_iw, Bool.and_eq_true, decide_eq_true_eq, decide_eq_true_eq, mp_mx]
  by_cases h : 50 ≤ x
  · rw [if_pos h]
    exact ⟨by decide, by decide⟩
  · rw [if_neg h]
    by_cases h2 : x ≤ -50
    · rw [if_pos h2]
      exact ⟨by decide, by decide⟩
    · rw [if_neg h2]
      exact ⟨Int32.le_of_lt (Int32.not_le.mp h2), Int32.le_of_lt (Int32.not_le.mp h)⟩
theorem mc_first_mem {p : Nat → Bool} : ∀ n B j, mc_first p B n = some j → B ≤ j ∧ j < B + n ∧ p j = true
  | 0, B, j, h => by cases h
  | n + 1, B, j, h => by
    rw [mc_first] at h
    split at h
    · injection h with h
      subst h
      exact ⟨Nat.le_refl _, by omega, by assumption⟩
    · obtain ⟨h1, h2, h3⟩ := mc_first_mem n (B + 1) j h
      exact ⟨by omega, by omega, h3⟩
/-- what the steps of a state's next block are -/
theorem sx_pre {ha : Nat → Nat → Int32} {hz : Int32} {T : Nat → Bool} {M : Nat} {x : sx_X} (hH : sx_H ha hz T M) (hV : sx_V ha T M x) (hN : sx_N x < M) :
    x.s 8 = nI (sx_N x) ∧ (x.s 10 = -1 ∨ ∃ c, x.s 10 = nI c ∧ c < 12 ∧ ha 0 c = nI (sx_sh ha x) ∧ ha 1 c = nI (sx_R ha x)) ∧ (sx_sh ha x = 101 ∨ sx_sh ha x = 98 ∨ sx_sh ha x = 118) ∧ sx_R ha x < 4 ∧ x.a 3 0 = nI (x.a 3 0).toNatClampNeg ∧ x.a 3 1 = nI (x.a 3 1).toNatClampNeg ∧ x.a 3 2 = nI (x.a 3 2).toNatClampNeg ∧ (x.a 3 0).toNatClampNeg < 16 ∧ (x.a 3 1).toNatClampNeg < 12 ∧ (x.a 3 2).toNatClampNeg < 10 ∧ mi_iw (sx_q ha x 17) (-50) 50 = true ∧ mi_iw (sx_q ha x 18) (-50) 50 = true ∧ mi_iw (sx_q ha x 19) (-50) 50 = true := by
  obtain ⟨-, hM9, hk, hs0, hs1, -, -, -⟩ := hH
  obtain ⟨⟨N, v1, v2⟩, v3, -, -, v6, ⟨X, Y, Z, hX, hY, hZ, e1, e2, e3⟩, -, -, -⟩ := hV
  have e8 : x.s 8 = nI (sx_N x) := by
    rw [sx_N, v1, nI_clamp (by omega)]
  refine ⟨e8, ?_, ?_, ?_, ?_, ?_, ?_, ?_, ?_, ?_, ?_, ?_, ?_⟩
  · rcases v3 with h | ⟨c, h, hc, h0⟩
    · exact Or.inl h
    · right
      obtain ⟨R, hR, hr⟩ := hs1 c hc
      have hn : ¬ x.s 10 = -1 := by rw [h]; exact nI_ne_m1 (by omega)
      refine ⟨c, h, hc, ?_, ?_⟩
      · rw [sx_sh, if_neg hn, h, nI_clamp (by omega)]
        rcases hs0 c hc with g | g | g | g
        · exact absurd g h0
        · rw [g]; rfl
        · rw [g]; rfl
        · rw [g]; rfl
      · rw [sx_R, if_neg hn, h, nI_clamp (by omega), hr, nI_clamp (by omega)]
  · rcases v3 with h | ⟨c, h, hc, h0⟩
    · rw [sx_sh, if_pos h]; exact Or.inl rfl
    · have hn : ¬ x.s 10 = -1 := by rw [h]; exact nI_ne_m1 (by omega)
      rw [sx_sh, if_neg hn, h, nI_clamp (by omega)]
      rcases hs0 c hc with g | g | g | g
      · exact absurd g h0
      · rw [g]; exact Or.inl rfl
      · rw [g]; exact Or.inr (Or.inl rfl)
      · rw [g]; exact Or.inr (Or.inr rfl)
  · rcases v3 with h | ⟨c, h, hc, h0⟩
    · rw [sx_R, if_pos h]; decide
    · have hn : ¬ x.s 10 = -1 := by rw [h]; exact nI_ne_m1 (by omega)
      obtain ⟨R, hR, hr⟩ := hs1 c hc
      rw [sx_R, if_neg hn, h, nI_clamp (by omega), hr, nI_clamp (by omega)]
      exact hR
  · rw [e1, nI_clamp (by omega)]
  · rw [e2, nI_clamp (by omega)]
  · rw [e3, nI_clamp (by omega)]
  · rw [e1, nI_clamp (by omega)]; exact hX
  · rw [e2, nI_clamp (by omega)]; exact hY
  · rw [e3, nI_clamp (by omega)]; exact hZ
  · exact mc_val_50 (hk _ hN).2.1 v6
  · exact mc_val_50 (hk _ hN).2.2.1 v6
  · exact mc_val_50 (hk _ hN).2.2.2 v6
theorem sx_base {ha : Nat → Nat → Int32} {hz : Int32} {T : Nat → Bool} {M : Nat} {x : sx_X} (hH : sx_H ha hz T M) (hV : sx_V ha T M x) (i : Nat) (hi : i < 3) : -15 ≤ (mb_b ha x.a (sx_q ha x) i).toInt ∧ (mb_b ha x.a (sx_q ha x) i).toInt ≤ 15 := by
  obtain ⟨-, -, -, -, -, ho, -, -⟩ := hH
  obtain ⟨-, -, -, ⟨O, o1, o2⟩, -, ⟨X, Y, Z, hX, hY, hZ, e1, e2, e3⟩, -, -, -⟩ := hV
  rw [mb_b, show sx_q ha x 13 = x.s 13 from rfl, o1, nI_clamp (by omega)]
  split
  · exact ho _ (by omega)
  · have : i = 0 ∨ i = 1 ∨ i = 2 := by omega
    rcases this with rfl | rfl | rfl
    · rw [e1, nI_toInt (by omega)]; omega
    · rw [e2, nI_toInt (by omega)]; omega
    · rw [e3, nI_toInt (by omega)]; omega
theorem sx_legs {ha : Nat → Nat → Int32} {hz : Int32} {T : Nat → Bool} {M : Nat} {x : sx_X} (hH : sx_H ha hz T M) (hV : sx_V ha T M x) (hN : sx_N x < M) (ht : mc_told ha (sx_q ha x 16) (sx_q ha x 17) (sx_q ha x 18) (sx_q ha x 19) = true) :
    (∀ e ∈ mx_es ha x.a (sx_q ha x), mg_few e) ∧ ((∀ e ∈ mx_es ha x.a (sx_q ha x), ml_ins e = true) → ∀ e ∈ mx_es ha x.a (sx_q ha x), ml_inn e ∧ ml_N e ≤ 15) ∧ ((∀ e ∈ mx_es ha x.a (sx_q ha x), ∀ i, 1 ≤ i → i ≤ ml_N e → mg_at e i = true) → ∀ e ∈ mx_es ha x.a (sx_q ha x), ml_ins e = true) ∧ ((∀ e ∈ mx_es ha x.a (sx_q ha x), ml_ins e = true) → ig_in (mx_p ha x.a (sx_q ha x) 0) (mx_p ha x.a (sx_q ha x) 1) (mx_p ha x.a (sx_q ha x) 2)) := by
  obtain ⟨p1, p2, p3, p4, p5, p6, p7, p8, p9, p10, b1, b2, b3⟩ := sx_pre hH hV hN
  have hin := hV.2.2.2.2.2.1
  by_cases hk : mx_mv (sx_q ha x 16)
  · have g1 := ig_iw b1
    have g2 := ig_iw b2
    have g3 := ig_iw b3
    rw [show (-50 : Int32).toInt = -50 from rfl, show (50 : Int32).toInt = 50 from rfl] at g1 g2 g3
    obtain ⟨h1, h2, h3, h4⟩ := ig_legs (c := sx_q ha x 19) hk hin (sx_base hH hV 0 (by omega)) (sx_base hH hV 1 (by omega)) (sx_base hH hV 2 (by omega)) g1 g2 g3 (fun q => mc_told_100 q ht b1 b2) (fun q => mc_told_112 q ht b1 b2 b3)
    refine ⟨fun e he => ig_few_mg (h1 e he), h2, h3, fun h => ?_⟩
    have h5 := h4 h
    rw [mx_p, mp_3_j (by omega), mp_3_j (by omega), mp_3_j (by omega)]
    exact h5
  · rw [mx_es_no hk]
    refine ⟨fun e he => absurd he List.not_mem_nil, fun _ e he => absurd he List.not_mem_nil, fun _ e he => absurd he List.not_mem_nil, fun _ => ?_⟩
    rw [mx_p_no hk (by omega), mx_p_no hk (by omega), mx_p_no hk (by omega)]
    exact hin
theorem sx_time {ha : Nat → Nat → Int32} {hz : Int32} {T : Nat → Bool} {M : Nat} {x : sx_X} (hV : sx_V ha T M x) (h : ∀ e ∈ mx_es ha x.a (sx_q ha x), ml_inn e ∧ ml_N e ≤ 15) : vf_n32 (mx_f (sx_q ha x)) ∧ ml_tok (mx_f (sx_q ha x)) (mx_es ha x.a (sx_q ha x)) x.t ∧ ff_ok 156 (mx_t ha x.a (sx_q ha x) x.t).toNat := by
  obtain ⟨-, -, ⟨F, f1, f2, f3⟩, -, -, -, ht, -, -⟩ := hV
  obtain ⟨G, hG1, hG2, hG⟩ : ∃ G, 1 ≤ G ∧ G < 101 ∧ mx_f (sx_q ha x) = FP.fdiv FP.fconst1 (FP.i2f (nI G)) := by
    rw [mx_f, show sx_q ha x 12 = x.s 12 from rfl, f1]
    split
    · exact ⟨100, by decide, by decide, rfl⟩
    · exact ⟨F, f2, by omega, rfl⟩
  rw [mx_t, hG]
  obtain ⟨h1, h2⟩ := ff_tok hG1 hG2 _ _ h ht
  exact ⟨ff_one G hG2 hG1, h1, h2⟩
