/-! THE TIME'S BITS: what is behind the point. -/
theorem fb_small {s k : Nat} {e : Int} (h1 : 2 ^ k ≤ s) (h2 : s < 2 ^ (k + 1)) (hk : k ≤ 23) {E : Nat} (he : (k : Int) + e + 127 = E) (hE : 1 ≤ E) (hE2 : E < 200) : FP.Core.encode FP.Core.b32 (FP.Core.roundRatio FP.Core.b32 false s 1 e) = E * 2 ^ 23 + (s * 2 ^ (23 - k) - 2 ^ 23) ∧ 2 ^ 23 ≤ s * 2 ^ (23 - k) ∧ s * 2 ^ (23 - k) < 2 ^ 24 := by
  have hs : ¬ s = 0 := by have := Nat.two_pow_pos k; omega
  have hq : FP.Core.quantum FP.Core.b32 s 1 e = (k : Int) + e - 23 := by
    unfold FP.Core.quantum
    rw [ff_lead h1 h2, show FP.Core.b32.qmin = -149 from rfl, show ((FP.Core.b32.p : Int) - 1) = 23 from rfl]
    omega
  have hn : FP.Core.unitsNum s e ((k : Int) + e - 23) = s * 2 ^ (23 - k) := by
    unfold FP.Core.unitsNum
    rw [show (e - ((k : Int) + e - 23)).toNat = 23 - k by omega]
  have hd : FP.Core.unitsDen 1 e ((k : Int) + e - 23) = 1 := by
    unfold FP.Core.unitsDen
    rw [show ((k : Int) + e - 23 - e).toNat = 0 by omega]
  have hp := Nat.two_pow_pos (23 - k)
  have m1 : 2 ^ 23 ≤ s * 2 ^ (23 - k) := by
    have : 2 ^ k * 2 ^ (23 - k) ≤ s * 2 ^ (23 - k) := Nat.mul_le_mul_right _ h1
    rw [← Nat.pow_add, show k + (23 - k) = 23 by omega] at this
    exact this
  have m2 : s * 2 ^ (23 - k) < 2 ^ 24 := by
    have : s * 2 ^ (23 - k) < 2 ^ (k + 1) * 2 ^ (23 - k) := Nat.mul_lt_mul_of_pos_right h2 hp
    rw [← Nat.pow_add, show k + 1 + (23 - k) = 24 by omega] at this
    exact this
  refine ⟨?_, m1, m2⟩
  rw [FP.Core.roundRatio, if_neg hs, hq, FP.Core.roundAt, hn, hd]
  generalize s * 2 ^ (23 - k) = m at m1 m2 ⊢
  have hne : FP.Core.nearest m 1 = m := by
    rw [FP.Core.nearest, Nat.mod_one, if_pos (by decide), Nat.div_one]
  rw [hne]
  exact fb_enc m1 m2 (by omega) hE hE2
theorem fb_sub {n T : Nat} (hn : n = 127 * 2 ^ 23 + T) (hT : T < 2 ^ 23) (h0 : 0 < T) : FP.Core.sub FP.Core.b32 n 1065353216 = FP.Core.encode FP.Core.b32 (FP.Core.roundRatio FP.Core.b32 false T 1 (-23)) := by
  have dn := ff_dec hn hT (by omega) (by omega)
  have dm := ff_dec (n := 1065353216) (E := 127) (T := 0) (by omega) (by omega) (by omega) (by omega)
  rw [Nat.add_zero] at dm
  rw [FP.Core.sub, dn, dm, FP.Core.negate, FP.Core.exactSum]
  have hm : min (((127 : Nat) : Int) - 150) (((127 : Nat) : Int) - 150) = -23 := by omega
  have hv : FP.Core.sumUnits false (2 ^ 23 + T) (((127 : Nat) : Int) - 150) (!false) (2 ^ 23) (((127 : Nat) : Int) - 150) (-23) = (T : Int) := by
    rw [FP.Core.sumUnits, FP.Core.inUnits, FP.Core.inUnits, show (((127 : Nat) : Int) - 150 - -23).toNat = 0 by omega, Nat.pow_zero, Nat.mul_one, Nat.mul_one]
    rw [show FP.Core.signed false (2 ^ 23 + T) = ((2 ^ 23 + T : Nat) : Int) from rfl, show FP.Core.signed (!false) (2 ^ 23) = -((2 ^ 23 : Nat) : Int) from rfl]
    omega
  rw [hm, hv, FP.Core.sumSign, if_neg (by omega), decide_eq_false (by omega), Int.natAbs_natCast, FP.Core.round]
theorem fb_tail {n T : Nat} (hn : n = 127 * 2 ^ 23 + T) (hT : T < 2 ^ 23) (h0 : 0 < T) : ∃ w E m, FP.Core.sub FP.Core.b32 n 1065353216 = w ∧ w ≤ 127 * 2 ^ 23 ∧ FP.Core.mul FP.Core.b32 w 1258291200 = E * 2 ^ 23 + (m - 2 ^ 23) ∧ 2 ^ 23 ≤ m ∧ m < 2 ^ 24 ∧ 127 ≤ E ∧ E ≤ 149 ∧ m / 2 ^ (150 - E) = T := by
  have hT0 : T ≠ 0 := by omega
  obtain ⟨k, hk⟩ : ∃ k, T.log2 = k := ⟨_, rfl⟩
  obtain ⟨b1, b2⟩ := (Nat.log2_eq_iff hT0).mp hk
  have hk22 : k ≤ 22 := by
    apply Nat.le_of_not_lt
    intro h
    have : 2 ^ 23 ≤ 2 ^ k := Nat.pow_le_pow_right (by decide) h
    omega
  obtain ⟨c1, c2, c3⟩ := fb_small (e := -23) (E := k + 104) b1 b2 (by omega) (by omega) (by omega) (by omega)
  have hdv : T * 2 ^ (23 - k) / 2 ^ (150 - (k + 127)) = T := by
    rw [show 150 - (k + 127) = 23 - k by omega, Nat.mul_div_cancel _ (Nat.two_pow_pos _)]
  refine ⟨(k + 104) * 2 ^ 23 + (T * 2 ^ (23 - k) - 2 ^ 23), k + 127, T * 2 ^ (23 - k), (fb_sub hn hT h0).trans c1, by omega, ?_, c2, c3, by omega, by omega, hdv⟩
  generalize T * 2 ^ (23 - k) = m at c2 c3
  have dn := ff_dec (n := (k + 104) * 2 ^ 23 + (m - 2 ^ 23)) (E := k + 104) (T := m - 2 ^ 23) rfl (by omega) (by omega) (by omega)
  have dm := ff_dec (n := 1258291200) (E := 150) (T := 0) (by omega) (by omega) (by omega) (by omega)
  rw [Nat.add_zero] at dm
  rw [show 2 ^ 23 + (m - 2 ^ 23) = m by omega] at dn
  rw [FP.Core.mul, dn, dm, FP.Core.exactProduct, show (false != false) = false from rfl, FP.Core.round]
  rw [ff_round (k := 23) (show 2 ^ (23 + 23) ≤ m * 2 ^ 23 by omega) (show m * 2 ^ 23 < 2 ^ (23 + 24) by omega) (by omega) (by omega)]
  have hne : FP.Core.nearest (m * 2 ^ 23) (2 ^ 23) = m := by
    rw [FP.Core.nearest, Nat.mul_mod_left, if_pos (by decide), Nat.mul_div_cancel _ (by decide)]
  rw [hne, show (((23 : Nat) : Int) + (((k + 104 : Nat) : Int) - 150 + (((150 : Nat) : Int) - 150)) + 149).toNat = k + 126 by omega]
  omega
theorem fb_f2i {n E m : Nat} (hn : n = E * 2 ^ 23 + (m - 2 ^ 23)) (h1 : 2 ^ 23 ≤ m) (h2 : m < 2 ^ 24) (h3 : 127 ≤ E) (h4 : E ≤ 149) : FP.Core.toI (FP.Core.decode FP.Core.b32 n) = nI (m / 2 ^ (150 - E)) := by
  have dn := ff_dec (n := n) (E := E) (T := m - 2 ^ 23) hn (by omega) (by omega) (by omega)
  rw [show 2 ^ 23 + (m - 2 ^ 23) = m by omega] at dn
  rw [dn, FP.Core.toI, FP.Core.toInt, FP.Core.truncate, show ((E : Int) - 150).toNat = 0 by omega, show (-((E : Int) - 150)).toNat = 150 - E by omega, Nat.pow_zero, Nat.mul_one]
  have hle : m / 2 ^ (150 - E) ≤ m := Nat.div_le_self _ _
  generalize m / 2 ^ (150 - E) = w at hle
  rw [show FP.Core.signed false w = (w : Int) from rfl, show max (-2 ^ 31) (min (2 ^ 31 - 1) (w : Int)) = (w : Int) by omega]
  rfl
