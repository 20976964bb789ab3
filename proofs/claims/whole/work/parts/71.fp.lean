/-! THE TIME: sums of times stay where they are numbers. -/
theorem ff_log {s k : Nat} (h1 : 2 ^ k ≤ s) (h2 : s < 2 ^ (k + 1)) : s.log2 = k := by
  rw [Nat.log2_eq_iff (by have := Nat.two_pow_pos k; omega)]
  exact ⟨h1, h2⟩
theorem ff_lead {s k : Nat} (h1 : 2 ^ k ≤ s) (h2 : s < 2 ^ (k + 1)) : FP.Core.leading s 1 = k := by
  have e : ((s.log2 : Int) - ((1 : Nat).log2 : Int)) = (k : Int) := by
    rw [ff_log h1 h2, show (1 : Nat).log2 = 0 by decide]
    omega
  unfold FP.Core.leading
  simp only [e]
  rw [if_pos]
  rw [show ((k : Int)).toNat = k from rfl, show (-(k : Int)).toNat = 0 by omega]
  omega
theorem ff_near {s k : Nat} (h1 : 2 ^ 23 * 2 ^ k ≤ s) (h2 : s < 2 ^ 24 * 2 ^ k) : 2 ^ 23 ≤ FP.Core.nearest s (2 ^ k) ∧ FP.Core.nearest s (2 ^ k) ≤ 2 ^ 24 := by
  have hp := Nat.two_pow_pos k
  have a1 : 2 ^ 23 ≤ s / 2 ^ k := (Nat.le_div_iff_mul_le hp).mpr h1
  have a2 : s / 2 ^ k < 2 ^ 24 := (Nat.div_lt_iff_lt_mul hp).mpr h2
  unfold FP.Core.nearest
  split
  · omega
  · split
    · omega
    · omega
theorem ff_round {s k : Nat} {e : Int} (h1 : 2 ^ (k + 23) ≤ s) (h2 : s < 2 ^ (k + 24)) (he : -149 ≤ (k : Int) + e) (he2 : (k : Int) + e ≤ 100) : FP.Core.encode FP.Core.b32 (FP.Core.roundRatio FP.Core.b32 false s 1 e) = ((k : Int) + e + 149).toNat * 2 ^ 23 + FP.Core.nearest s (2 ^ k) := by
  have hs : ¬ s = 0 := by have := Nat.two_pow_pos (k + 23); omega
  have hq : FP.Core.quantum FP.Core.b32 s 1 e = (k : Int) + e := by
    unfold FP.Core.quantum
    rw [ff_lead h1 h2, show FP.Core.b32.qmin = -149 from rfl, show ((FP.Core.b32.p : Int) - 1) = 23 from rfl]
    omega
  have hn : FP.Core.unitsNum s e ((k : Int) + e) = s := by
    unfold FP.Core.unitsNum
    rw [show (e - ((k : Int) + e)).toNat = 0 by omega, Nat.pow_zero, Nat.mul_one]
  have hd : FP.Core.unitsDen 1 e ((k : Int) + e) = 2 ^ k := by
    unfold FP.Core.unitsDen
    rw [show ((k : Int) + e - e).toNat = k by omega, Nat.one_mul]
  rw [FP.Core.roundRatio, if_neg hs, hq, FP.Core.roundAt, hn, hd]
  obtain ⟨m1, m2⟩ := ff_near (k := k) (s := s) (by rw [← Nat.pow_add, Nat.add_comm]; exact h1) (by rw [← Nat.pow_add, Nat.add_comm]; exact h2)
  generalize FP.Core.nearest s (2 ^ k) = m at m1 m2 ⊢
  rw [FP.Core.settle]
  by_cases hm : m < 2 ^ 24
  · rw [if_pos (show m < 2 ^ FP.Core.b32.p from hm), FP.Core.bound, if_pos (show (k : Int) + e ≤ FP.Core.b32.qmax by show (k : Int) + e ≤ 104; omega)]
    show (if m < 2 ^ 23 then FP.Core.assemble FP.Core.b32 false 0 m else FP.Core.assemble FP.Core.b32 false (((k : Int) + e - (-149)).toNat + 1) (m - 2 ^ 23)) = _
    rw [if_neg (by omega)]
    show ((0 * 2 ^ 8 + (((k : Int) + e - (-149)).toNat + 1)) * 2 ^ 23 + (m - 2 ^ 23)) = _
    rw [show ((k : Int) + e - (-149)).toNat = ((k : Int) + e + 149).toNat by omega]
    generalize ((k : Int) + e + 149).toNat = w
    omega
  · rw [if_neg (show ¬ m < 2 ^ FP.Core.b32.p from hm), FP.Core.bound, if_pos (show (k : Int) + e + 1 ≤ FP.Core.b32.qmax by show (k : Int) + e + 1 ≤ 104; omega)]
    show (if 2 ^ 23 < 2 ^ 23 then FP.Core.assemble FP.Core.b32 false 0 (2 ^ 23) else FP.Core.assemble FP.Core.b32 false (((k : Int) + e + 1 - (-149)).toNat + 1) (2 ^ 23 - 2 ^ 23)) = _
    rw [if_neg (by omega)]
    show ((0 * 2 ^ 8 + (((k : Int) + e + 1 - (-149)).toNat + 1)) * 2 ^ 23 + (2 ^ 23 - 2 ^ 23)) = _
    rw [show ((k : Int) + e + 1 - (-149)).toNat = ((k : Int) + e + 149).toNat + 1 by omega]
    generalize ((k : Int) + e + 149).toNat = w
    omega
theorem ff_dec {n E T : Nat} (hn : n = E * 2 ^ 23 + T) (hT : T < 2 ^ 23) (h1 : 1 ≤ E) (h2 : E < 255) : FP.Core.decode FP.Core.b32 n = .fin false (2 ^ 23 + T) ((E : Int) - 150) := by
  have e0 : n / 2 ^ 23 = E := by omega
  have e1 : FP.Core.fieldE FP.Core.b32 n = E := by
    show n / 2 ^ 23 % 2 ^ 8 = E
    omega
  have e2 : FP.Core.fieldT FP.Core.b32 n = T := by
    show n % 2 ^ 23 = T
    omega
  have e3 : FP.Core.fieldS FP.Core.b32 n = false := by
    show (n / 2 ^ 23 / 2 ^ 8 % 2 == 1) = false
    rw [show n / 2 ^ 23 / 2 ^ 8 % 2 = 0 by omega]
    rfl
  rw [FP.Core.decode, if_neg (by rw [e1]; show ¬ E = 2 ^ 8 - 1; omega), if_neg (by rw [e1]; omega), e1, e2, e3]
  show FP.Core.Datum.fin false (2 ^ 23 + T) (-149 + ((E : Int) - 1)) = _
  rw [show (-149 + ((E : Int) - 1)) = (E : Int) - 150 by omega]
theorem ff_sum {c d : Nat} {q r : Int} (hc : 0 < c) : FP.Core.exactSum (.fin false c q) (.fin false d r) = .fin false (c * 2 ^ (q - min q r).toNat + d * 2 ^ (r - min q r).toNat) (min q r) := by
  have hv : FP.Core.sumUnits false c q false d r (min q r) = ((c * 2 ^ (q - min q r).toNat + d * 2 ^ (r - min q r).toNat : Nat) : Int) := by
    show ((c * 2 ^ (q - min q r).toNat : Nat) : Int) + ((d * 2 ^ (r - min q r).toNat : Nat) : Int) = _
    rw [Int.natCast_add]
  have hp : 0 < c * 2 ^ (q - min q r).toNat := Nat.mul_pos hc (Nat.two_pow_pos _)
  rw [FP.Core.exactSum, hv]
  generalize c * 2 ^ (q - min q r).toNat = A at hp
  generalize d * 2 ^ (r - min q r).toNat = B
  rw [FP.Core.sumSign, if_neg (by omega), decide_eq_false (by omega), Int.natAbs_natCast]
theorem ff_sum0 {d : Nat} {r : Int} (hd : 0 < d) (hr : -149 ≤ r) : FP.Core.exactSum (.fin false 0 (-149)) (.fin false d r) = .fin false (d * 2 ^ (r + 149).toNat) (-149) := by
  have hm : min (-149) r = -149 := by omega
  have hv : FP.Core.sumUnits false 0 (-149) false d r (-149) = ((d * 2 ^ (r + 149).toNat : Nat) : Int) := by
    show ((0 * 2 ^ ((-149 : Int) - (-149)).toNat : Nat) : Int) + ((d * 2 ^ (r - (-149)).toNat : Nat) : Int) = _
    rw [Nat.zero_mul, show r - (-149) = r + 149 by omega]
    omega
  have hp : 0 < d * 2 ^ (r + 149).toNat := Nat.mul_pos hd (Nat.two_pow_pos _)
  rw [FP.Core.exactSum, hm, hv]
  generalize d * 2 ^ (r + 149).toNat = B at hp
  rw [FP.Core.sumSign, if_neg (by omega), decide_eq_false (by omega), Int.natAbs_natCast]
def ff_ok (hi n : Nat) : Prop := n = 0 ∨ ∃ E T, n = E * 2 ^ 23 + T ∧ T < 2 ^ 23 ∧ 120 ≤ E ∧ E ≤ hi ∧ (E = hi → T = 0)
theorem ff_dec0 : FP.Core.decode FP.Core.b32 0 = .fin false 0 (-149) := by decide +kernel
theorem ff_same {E T : Nat} (hT : T < 2 ^ 23) (h1 : 1 ≤ E) (h2 : E < 200) : FP.Core.encode FP.Core.b32 (FP.Core.roundRatio FP.Core.b32 false ((2 ^ 23 + T) * 2 ^ (E - 1)) 1 (-149)) = E * 2 ^ 23 + T := by
  have hp := Nat.two_pow_pos (E - 1)
  rw [ff_round (k := E - 1) (by rw [Nat.pow_add, Nat.mul_comm (2 ^ (E - 1))]; exact Nat.mul_le_mul_right _ (by omega)) (by rw [Nat.pow_add, Nat.mul_comm (2 ^ (E - 1)) (2 ^ 24)]; exact Nat.mul_lt_mul_of_pos_right (by omega) hp) (by omega) (by omega)]
  have e : FP.Core.nearest ((2 ^ 23 + T) * 2 ^ (E - 1)) (2 ^ (E - 1)) = 2 ^ 23 + T := by
    rw [FP.Core.nearest, Nat.mul_mod_left, if_pos (by omega), Nat.mul_div_cancel _ hp]
  rw [e, show (((E - 1 : Nat) : Int) + -149 + 149).toNat = E - 1 by omega]
  omega
theorem ff_val {E T hi : Nat} (hT : T < 2 ^ 23) (h1 : 120 ≤ E) (h2 : E ≤ hi) (h3 : E = hi → T = 0) : (2 ^ 23 + T) * 2 ^ (E - 120) ≤ 2 ^ 23 * 2 ^ (hi - 120) := by
  by_cases h : E = hi
  · rw [h3 h, h]
    exact Nat.le_refl _
  · have e : hi - 120 = (E - 120) + 1 + (hi - E - 1) := by omega
    rw [e, Nat.pow_add, Nat.pow_add]
    have hp := Nat.two_pow_pos (hi - E - 1)
    have : (2 ^ 23 + T) * 2 ^ (E - 120) ≤ 2 ^ 23 * (2 ^ (E - 120) * 2 ^ 1) := by
      rw [show 2 ^ 23 * (2 ^ (E - 120) * 2 ^ 1) = 2 ^ 24 * 2 ^ (E - 120) by rw [show (2 : Nat) ^ 24 = 2 ^ 23 * 2 ^ 1 from rfl, Nat.mul_assoc, Nat.mul_comm (2 ^ 1)]]
      exact Nat.mul_le_mul_right _ (by omega)
    refine Nat.le_trans this (Nat.mul_le_mul_left _ ?_)
    exact Nat.le_mul_of_pos_right _ hp
theorem ff_fin {s u : Nat} (hu1 : 120 ≤ u) (hu2 : u ≤ 156) (h0 : 2 ^ 23 ≤ s) (hs : s * 2 ^ (u - 120) ≤ 2 ^ 59 + 2 ^ 34) : ff_ok 156 (FP.Core.encode FP.Core.b32 (FP.Core.roundRatio FP.Core.b32 false s 1 ((u : Int) - 150))) := by
  have hs0 : s ≠ 0 := by omega
  have l1 : 23 ≤ s.log2 := (Nat.le_log2 hs0).mpr h0
  obtain ⟨k, hk⟩ : ∃ k, s.log2 = k + 23 := ⟨s.log2 - 23, by omega⟩
  obtain ⟨b1, b2⟩ := (Nat.log2_eq_iff hs0).mp hk
  have hW := Nat.two_pow_pos (u - 120)
  have hku : k + u ≤ 156 := by
    apply Nat.le_of_not_lt
    intro h
    have c1 : 2 ^ (k + 23) * 2 ^ (u - 120) ≤ 2 ^ 59 + 2 ^ 34 := Nat.le_trans (Nat.mul_le_mul_right _ b1) hs
    rw [← Nat.pow_add] at c1
    have c2 : 2 ^ 60 ≤ 2 ^ (k + 23 + (u - 120)) := Nat.pow_le_pow_right (by decide) (by omega)
    have c3 : 2 ^ 60 ≤ 2 ^ 59 + 2 ^ 34 := Nat.le_trans c2 c1
    exact absurd c3 (by decide)
  rw [ff_round b1 b2 (by omega) (by omega), show ((k : Int) + ((u : Int) - 150) + 149).toNat = k + u - 1 by omega]
  have d1 : 2 ^ 23 * 2 ^ k ≤ s := by rw [← Nat.pow_add, Nat.add_comm]; exact b1
  have d2 : s < 2 ^ 24 * 2 ^ k := by rw [← Nat.pow_add, Nat.add_comm]; exact b2
  obtain ⟨m1, m2⟩ := ff_near d1 d2
  right
  by_cases h156 : k + u = 156
  · have e : FP.Core.nearest s (2 ^ k) = 2 ^ 23 := by
      have hP := Nat.two_pow_pos k
      have hPW : 2 ^ k * 2 ^ (u - 120) = 2 ^ 36 := by rw [← Nat.pow_add, show k + (u - 120) = 36 by omega]
      have hlt : 2 * s < 2 ^ 24 * 2 ^ k + 2 ^ k := by
        apply Nat.lt_of_not_le
        intro h
        have c1 := Nat.mul_le_mul_right (2 ^ (u - 120)) h
        rw [Nat.add_mul, Nat.mul_assoc, hPW, Nat.mul_assoc] at c1
        generalize s * 2 ^ (u - 120) = z at hs c1
        omega
      generalize 2 ^ k = P at d1 d2 hP hlt
      have e1 : s / P = 2 ^ 23 := by
        apply Nat.div_eq_of_lt_le
        · omega
        · omega
      have e2 : s % P = s - 2 ^ 23 * P := by
        have := Nat.div_add_mod s P
        rw [e1, Nat.mul_comm] at this
        omega
      rw [FP.Core.nearest, e1, e2, if_pos (by omega)]
    rw [e]
    exact ⟨156, 0, by omega, by decide, by omega, by omega, fun _ => rfl⟩
  · generalize FP.Core.nearest s (2 ^ k) = m at m1 m2
    by_cases hm : m = 2 ^ 24
    · exact ⟨k + u + 1, 0, by omega, by decide, by omega, by omega, fun _ => rfl⟩
    · exact ⟨k + u, m - 2 ^ 23, by omega, by omega, by omega, by omega, fun h => absurd h h156⟩
theorem ff_add {n m : Nat} (hn : ff_ok 156 n) (hm : ff_ok 131 m) : ff_ok 156 (FP.Core.add FP.Core.b32 n m) := by
  rw [FP.Core.add]
  rcases hn with rfl | ⟨E, T, en, hT, hE1, hE2, hE3⟩
  · rcases hm with rfl | ⟨F, U, em, hU, hF1, hF2, hF3⟩
    · exact Or.inl (by decide +kernel)
    · rw [ff_dec0, ff_dec em hU (by omega) (by omega), ff_sum0 (by omega) (by omega), show ((F : Int) - 150 + 149).toNat = F - 1 by omega]
      show ff_ok 156 (FP.Core.encode FP.Core.b32 (FP.Core.roundRatio FP.Core.b32 false ((2 ^ 23 + U) * 2 ^ (F - 1)) 1 (-149)))
      rw [ff_same hU (by omega) (by omega)]
      exact Or.inr ⟨F, U, rfl, hU, hF1, by omega, fun h => by omega⟩
  · rcases hm with rfl | ⟨F, U, em, hU, hF1, hF2, hF3⟩
    · rw [ff_dec0, ff_dec en hT (by omega) (by omega), ff_sum (by omega), show min ((E : Int) - 150) (-149) = -149 by omega, show ((E : Int) - 150 - -149).toNat = E - 1 by omega, Nat.zero_mul, Nat.add_zero]
      show ff_ok 156 (FP.Core.encode FP.Core.b32 (FP.Core.roundRatio FP.Core.b32 false ((2 ^ 23 + T) * 2 ^ (E - 1)) 1 (-149)))
      rw [ff_same hT (by omega) (by omega)]
      exact Or.inr ⟨E, T, rfl, hT, hE1, hE2, hE3⟩
    · have v1 := ff_val hT hE1 hE2 hE3
      have v2 := ff_val hU hF1 hF2 hF3
      rw [ff_dec en hT (by omega) (by omega), ff_dec em hU (by omega) (by omega), ff_sum (by omega)]
      rcases Nat.le_total E F with h | h
      · rw [show min ((E : Int) - 150) ((F : Int) - 150) = (E : Int) - 150 by omega, show ((E : Int) - 150 - ((E : Int) - 150)).toNat = 0 by omega, show ((F : Int) - 150 - ((E : Int) - 150)).toNat = F - E by omega, Nat.pow_zero, Nat.mul_one]
        refine ff_fin hE1 (by omega) (by omega) ?_
        rw [Nat.add_mul, Nat.mul_assoc, ← Nat.pow_add, show F - E + (E - 120) = F - 120 by omega]
        exact Nat.add_le_add v1 v2
      · rw [show min ((E : Int) - 150) ((F : Int) - 150) = (F : Int) - 150 by omega, show ((F : Int) - 150 - ((F : Int) - 150)).toNat = 0 by omega, show ((E : Int) - 150 - ((F : Int) - 150)).toNat = E - F by omega, Nat.pow_zero, Nat.mul_one]
        refine ff_fin hF1 (by omega) (by omega) ?_
        rw [Nat.add_mul, Nat.mul_assoc, ← Nat.pow_add, show E - F + (F - 120) = E - 120 by omega]
        exact Nat.add_le_add v1 v2
theorem ff_lt {hi n : Nat} (h : ff_ok hi n) (hh : hi ≤ 200) : n ≤ hi * 2 ^ 23 := by
  rcases h with rfl | ⟨E, T, en, hT, h1, h2, h3⟩
  · exact Nat.zero_le _
  · by_cases h : E = hi
    · rw [en, h3 h, h]; omega
    · omega
theorem ff_fadd {t x : UInt32} (ht : ff_ok 156 t.toNat) (hx : ff_ok 131 x.toNat) : ff_ok 156 (FP.fadd t x).toNat := by
  have h := ff_add ht hx
  have h2 := ff_lt h (by decide)
  show ff_ok 156 (UInt32.ofNat (FP.Core.add FP.Core.b32 t.toNat x.toNat)).toNat
  rw [UInt32.toNat_ofNat', Nat.mod_eq_of_lt (by omega)]
  exact h
theorem ff_n32 {t : UInt32} (ht : ff_ok 156 t.toNat) : vf_n32 t := by
  have h2 := ff_lt ht (by decide)
  refine UInt32.le_trans UInt32.and_le_left ?_
  rw [UInt32.le_iff_toNat_le]
  show t.toNat ≤ 2139095040
  omega
theorem ff_step : ∀ n, n < 16 → ∀ F, F < 101 → 1 ≤ F → (FP.fmul (FP.i2f (nI n)) (FP.fdiv FP.fconst1 (FP.i2f (nI F)))).toNat = 0 ∨ (120 * 2 ^ 23 ≤ (FP.fmul (FP.i2f (nI n)) (FP.fdiv FP.fconst1 (FP.i2f (nI F)))).toNat ∧ (FP.fmul (FP.i2f (nI n)) (FP.fdiv FP.fconst1 (FP.i2f (nI F)))).toNat ≤ 131 * 2 ^ 23) := by decide +kernel
theorem ff_one : ∀ F, F < 101 → 1 ≤ F → vf_n32 (FP.fdiv FP.fconst1 (FP.i2f (nI F))) := by
  unfold vf_n32
  decide +kernel
theorem ff_of {n hi : Nat} (h : n = 0 ∨ (120 * 2 ^ 23 ≤ n ∧ n ≤ hi * 2 ^ 23)) : ff_ok hi n := by
  rcases h with h | ⟨h1, h2⟩
  · exact Or.inl h
  · exact Or.inr ⟨n / 2 ^ 23, n % 2 ^ 23, by omega, by omega, by omega, by omega, fun h => by omega⟩
/-- the times of legs of at most fifteen steps -/
theorem ff_tok {F : Nat} (h1 : 1 ≤ F) (h2 : F < 101) : ∀ (es : List ml_L) (t : UInt32), (∀ e ∈ es, ml_inn e ∧ ml_N e ≤ 15) → ff_ok 156 t.toNat → ml_tok (FP.fdiv FP.fconst1 (FP.i2f (nI F))) es t ∧ ff_ok 156 (ml_tm (FP.fdiv FP.fconst1 (FP.i2f (nI F))) es t).toNat
  | [], t, _, ht => ⟨trivial, ht⟩
  | e :: r, t, h, ht => by
    obtain ⟨⟨g1, -⟩, g2⟩ := h e List.mem_cons_self
    have s1 := ff_step (ml_N e) (by omega) F h2 h1
    rw [← g1] at s1
    have s2 := ff_of (hi := 131) s1
    have s3 := ff_fadd ht s2
    obtain ⟨k1, k2⟩ := ff_tok h1 h2 r (FP.fadd t (FP.fmul (FP.i2f (ml_n e)) (FP.fdiv FP.fconst1 (FP.i2f (nI F))))) (fun e he => h e (List.mem_cons_of_mem _ he)) s3
    refine ⟨⟨?_, ff_n32 s3, k1⟩, k2⟩
    exact ff_n32 (ff_of (s1.imp id (fun q => ⟨q.1, by omega⟩)))
