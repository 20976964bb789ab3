/-! THE TIME'S BITS: dividing and multiplying by two, the order, and what is behind the point. -/
theorem fb_enc {c : Nat} {q : Int} {E : Nat} (h1 : 2 ^ 23 ≤ c) (h2 : c < 2 ^ 24) (hq : q = (E : Int) - 150) (hE : 1 ≤ E) (hE2 : E < 200) : FP.Core.encode FP.Core.b32 (FP.Core.settle FP.Core.b32 false c q) = E * 2 ^ 23 + (c - 2 ^ 23) := by
  subst hq
  rw [FP.Core.settle, if_pos (show c < 2 ^ FP.Core.b32.p from h2), FP.Core.bound, if_pos (show (E : Int) - 150 ≤ FP.Core.b32.qmax by show (E : Int) - 150 ≤ 104; omega)]
  show (if c < 2 ^ 23 then FP.Core.assemble FP.Core.b32 false 0 c else FP.Core.assemble FP.Core.b32 false (((E : Int) - 150 - (-149)).toNat + 1) (c - 2 ^ 23)) = _
  rw [if_neg (by omega)]
  show ((0 * 2 ^ 8 + (((E : Int) - 150 - (-149)).toNat + 1)) * 2 ^ 23 + (c - 2 ^ 23)) = _
  rw [show ((E : Int) - 150 - (-149)).toNat + 1 = E by omega]
  omega
theorem fb_div {n E T : Nat} (hn : n = E * 2 ^ 23 + T) (hT : T < 2 ^ 23) (h1 : 2 ≤ E) (h2 : E < 200) : FP.Core.div FP.Core.b32 n 1073741824 = (E - 1) * 2 ^ 23 + T := by
  rw [FP.Core.div, ff_dec hn hT (by omega) (by omega), ff_dec (n := 1073741824) (E := 128) (T := 0) (by decide) (by omega) (by omega) (by omega), FP.Core.quotient, if_neg (by omega), show (false != false) = false from rfl, Nat.add_zero, show ((E : Int) - 150 - (((128 : Nat) : Int) - 150)) = (E : Int) - 128 by omega]
  have hl : FP.Core.leading (2 ^ 23 + T) (2 ^ 23) = 0 := by
    have e : (((2 ^ 23 + T).log2 : Int) - ((2 ^ 23 : Nat).log2 : Int)) = 0 := by
      rw [ff_log (k := 23) (by omega) (by omega), show (2 ^ 23 : Nat).log2 = 23 by decide]
      rfl
    unfold FP.Core.leading
    simp only [e]
    rw [if_pos]
    show 2 ^ 23 * 2 ^ 0 ≤ (2 ^ 23 + T) * 2 ^ 0
    omega
  have hq : FP.Core.quantum FP.Core.b32 (2 ^ 23 + T) (2 ^ 23) ((E : Int) - 128) = (E : Int) - 151 := by
    unfold FP.Core.quantum
    rw [hl, show FP.Core.b32.qmin = -149 from rfl, show ((FP.Core.b32.p : Int) - 1) = 23 from rfl]
    omega
  rw [FP.Core.roundRatio, if_neg (by omega), hq, FP.Core.roundAt]
  have hn2 : FP.Core.unitsNum (2 ^ 23 + T) ((E : Int) - 128) ((E : Int) - 151) = (2 ^ 23 + T) * 2 ^ 23 := by
    unfold FP.Core.unitsNum
    rw [show ((E : Int) - 128 - ((E : Int) - 151)).toNat = 23 by omega]
  have hd2 : FP.Core.unitsDen (2 ^ 23) ((E : Int) - 128) ((E : Int) - 151) = 2 ^ 23 := by
    unfold FP.Core.unitsDen
    rw [show ((E : Int) - 151 - ((E : Int) - 128)).toNat = 0 by omega, Nat.pow_zero, Nat.mul_one]
  rw [hn2, hd2]
  have hne : FP.Core.nearest ((2 ^ 23 + T) * 2 ^ 23) (2 ^ 23) = 2 ^ 23 + T := by
    rw [FP.Core.nearest, Nat.mul_mod_left, if_pos (by decide), Nat.mul_div_cancel _ (by decide)]
  rw [hne, fb_enc (E := E - 1) (by omega) (by omega) (by omega) (by omega) (by omega)]
  omega
theorem fb_mul {n E T : Nat} (hn : n = E * 2 ^ 23 + T) (hT : T < 2 ^ 23) (h1 : 1 ≤ E) (h2 : E < 200) : FP.Core.mul FP.Core.b32 n 1073741824 = (E + 1) * 2 ^ 23 + T := by
  rw [FP.Core.mul, ff_dec hn hT (by omega) (by omega), ff_dec (n := 1073741824) (E := 128) (T := 0) (by decide) (by omega) (by omega) (by omega), FP.Core.exactProduct, show (false != false) = false from rfl, Nat.add_zero, FP.Core.round, show ((E : Int) - 150 + (((128 : Nat) : Int) - 150)) = (E : Int) - 172 by omega]
  have hs1 : 2 ^ (23 + 23) ≤ (2 ^ 23 + T) * 2 ^ 23 := by omega
  have hs2 : (2 ^ 23 + T) * 2 ^ 23 < 2 ^ (23 + 24) := by omega
  rw [ff_round (k := 23) hs1 hs2 (by omega) (by omega)]
  have hne : FP.Core.nearest ((2 ^ 23 + T) * 2 ^ 23) (2 ^ 23) = 2 ^ 23 + T := by
    rw [FP.Core.nearest, Nat.mul_mod_left, if_pos (by decide), Nat.mul_div_cancel _ (by decide)]
  rw [hne, show (((23 : Nat) : Int) + ((E : Int) - 172) + 149).toNat = E by omega]
  omega
theorem fb_ord {n E T F m : Nat} (hn : n = E * 2 ^ 23 + T) (hT : T < 2 ^ 23) (h1 : 1 ≤ E) (h2 : E < 200) (hm : m = F * 2 ^ 23) (h3 : 1 ≤ F) (h4 : F < 200) : (E < F → FP.Core.cmp FP.Core.b32 n m = some .lt) ∧ (F ≤ E → FP.Core.cmp FP.Core.b32 n m = some .gt ∨ FP.Core.cmp FP.Core.b32 n m = some .eq) := by
  have dn := ff_dec hn hT (by omega) (by omega)
  have dm := ff_dec (n := m) (E := F) (T := 0) (by rw [hm, Nat.add_zero]) (by omega) (by omega) (by omega)
  rw [Nat.add_zero] at dm
  rw [FP.Core.cmp, dn, dm, FP.Core.order]
  constructor
  · intro h
    rw [show min ((E : Int) - 150) ((F : Int) - 150) = (E : Int) - 150 by omega, FP.Core.inUnits, FP.Core.inUnits, show ((E : Int) - 150 - ((E : Int) - 150)).toNat = 0 by omega, show ((F : Int) - 150 - ((E : Int) - 150)).toNat = F - E by omega, Nat.pow_zero, Nat.mul_one]
    have e9 : (2 : Nat) ^ (F - E) = 2 ^ (F - E - 1) * 2 := by
      rw [← Nat.pow_succ]
      congr 1
      omega
    have hp := Nat.two_pow_pos (F - E - 1)
    rw [e9]
    generalize 2 ^ (F - E - 1) = w at hp ⊢
    exact congrArg some (Int.compare_eq_lt.mpr (show ((2 ^ 23 + T : Nat) : Int) < ((2 ^ 23 * (w * 2) : Nat) : Int) by omega))
  · intro h
    rw [show min ((E : Int) - 150) ((F : Int) - 150) = (F : Int) - 150 by omega, FP.Core.inUnits, FP.Core.inUnits, show ((F : Int) - 150 - ((F : Int) - 150)).toNat = 0 by omega, show ((E : Int) - 150 - ((F : Int) - 150)).toNat = E - F by omega, Nat.pow_zero, Nat.mul_one]
    have hp := Nat.two_pow_pos (E - F)
    have hge : 2 ^ 23 ≤ (2 ^ 23 + T) * 2 ^ (E - F) := Nat.le_trans (show 2 ^ 23 ≤ 2 ^ 23 + T by omega) (Nat.le_mul_of_pos_right _ hp)
    generalize (2 ^ 23 + T) * 2 ^ (E - F) = w at hge ⊢
    rcases Nat.lt_or_eq_of_le hge with h5 | h5
    · exact Or.inl (congrArg some (Int.compare_eq_gt.mpr (show ((2 ^ 23 : Nat) : Int) < ((w : Nat) : Int) by omega)))
    · exact Or.inr (congrArg some (Int.compare_eq_eq.mpr (show ((w : Nat) : Int) = ((2 ^ 23 : Nat) : Int) by omega)))
