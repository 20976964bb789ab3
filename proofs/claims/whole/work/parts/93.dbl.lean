/-! THE TIME AS A DOUBLE: a number, equal to itself. -/
theorem fd_of {n : Nat} (h : n < 2 ^ 64) : (UInt64.ofNat n).toNat = n := by
  rw [UInt64.toNat_ofNat', Nat.mod_eq_of_lt h]
theorem fd_n64 {y : UInt64} (h : y.toNat ≤ 9218868437227405312) : vf_n64 y := by
  refine UInt64.le_trans UInt64.and_le_left ?_
  rw [UInt64.le_iff_toNat_le]
  exact h
theorem fd_dec {n E T : Nat} (hn : n = E * 2 ^ 52 + T) (hT : T < 2 ^ 52) (h1 : 1 ≤ E) (h2 : E < 2047) : FP.Core.decode FP.Core.b64 n = .fin false (2 ^ 52 + T) ((E : Int) - 1075) := by
  have e0 : n / 2 ^ 52 = E := by omega
  have e1 : FP.Core.fieldE FP.Core.b64 n = E := by
    show n / 2 ^ 52 % 2 ^ 11 = E
    omega
  have e2 : FP.Core.fieldT FP.Core.b64 n = T := by
    show n % 2 ^ 52 = T
    omega
  have e3 : FP.Core.fieldS FP.Core.b64 n = false := by
    show (n / 2 ^ 52 / 2 ^ 11 % 2 == 1) = false
    rw [show n / 2 ^ 52 / 2 ^ 11 % 2 = 0 by omega]
    rfl
  rw [FP.Core.decode, if_neg (by rw [e1]; show ¬ E = 2 ^ 11 - 1; omega), if_neg (by rw [e1]; omega), e1, e2, e3]
  show FP.Core.Datum.fin false (2 ^ 52 + T) (-1074 + ((E : Int) - 1)) = _
  rw [show (-1074 + ((E : Int) - 1)) = (E : Int) - 1075 by omega]
theorem fd_cmp {y : UInt64} {E T : Nat} (hn : y.toNat = E * 2 ^ 52 + T) (hT : T < 2 ^ 52) (h1 : 1 ≤ E) (h2 : E < 2047) : FP.dcmp y y = some .eq := by
  show FP.Core.order (FP.Core.decode FP.Core.b64 y.toNat) (FP.Core.decode FP.Core.b64 y.toNat) = some .eq
  rw [fd_dec hn hT h1 h2, FP.Core.order]
  exact congrArg some (Int.compare_eq_eq.mpr rfl)
theorem fd_enc {w E : Nat} (h : w < 2 ^ 52) (hE : E < 200) : FP.Core.encode FP.Core.b64 (FP.Core.settle FP.Core.b64 false (2 ^ 52 + w) ((E : Int) - 179)) = (E + 896) * 2 ^ 52 + w := by
  rw [FP.Core.settle, if_pos (show 2 ^ 52 + w < 2 ^ FP.Core.b64.p by show 2 ^ 52 + w < 2 ^ 53; omega), FP.Core.bound, if_pos (show (E : Int) - 179 ≤ FP.Core.b64.qmax by show (E : Int) - 179 ≤ 971; omega)]
  show (if 2 ^ 52 + w < 2 ^ 52 then FP.Core.assemble FP.Core.b64 false 0 (2 ^ 52 + w) else FP.Core.assemble FP.Core.b64 false (((E : Int) - 179 - (-1074)).toNat + 1) (2 ^ 52 + w - 2 ^ 52)) = _
  refine (if_neg (show ¬ 2 ^ 52 + w < 2 ^ 52 by omega)).trans ?_
  show ((0 * 2 ^ 11 + (((E : Int) - 179 - (-1074)).toNat + 1)) * 2 ^ 52 + (2 ^ 52 + w - 2 ^ 52)) = _
  rw [show ((E : Int) - 179 - (-1074)).toNat + 1 = E + 896 by omega]
  omega
theorem fd_b9 {E w : Nat} (h : E < 200) (hw : w < 2 ^ 52) : (E + 896) * 2 ^ 52 + w < 2 ^ 64 := Nat.lt_of_le_of_lt (Nat.add_le_add (Nat.mul_le_mul_right (2 ^ 52) (show E + 896 ≤ 1095 by omega)) (Nat.le_of_lt hw)) (by decide)
theorem fd_f2d {t : UInt32} {E T : Nat} (hn : t.toNat = E * 2 ^ 23 + T) (hT : T < 2 ^ 23) (h1 : 1 ≤ E) (h2 : E < 200) : (FP.f2d t).toNat = (E + 896) * 2 ^ 52 + T * 2 ^ 29 := by
  have w9 : T * 2 ^ 29 < 2 ^ 52 := by omega
  have e9 : (2 ^ 23 + T) * 2 ^ 29 = 2 ^ 52 + T * 2 ^ 29 := by omega
  have e : FP.Core.convert FP.Core.b32 FP.Core.b64 t.toNat = (E + 896) * 2 ^ 52 + T * 2 ^ 29 := by
    rw [FP.Core.convert, ff_dec hn hT h1 (by omega), FP.Core.round]
    have hq : FP.Core.quantum FP.Core.b64 (2 ^ 23 + T) 1 ((E : Int) - 150) = (E : Int) - 179 := by
      unfold FP.Core.quantum
      rw [ff_lead (k := 23) (by omega) (by omega), show FP.Core.b64.qmin = -1074 from rfl, show ((FP.Core.b64.p : Int) - 1) = 52 from rfl]
      omega
    have hn2 : FP.Core.unitsNum (2 ^ 23 + T) ((E : Int) - 150) ((E : Int) - 179) = (2 ^ 23 + T) * 2 ^ 29 := by
      unfold FP.Core.unitsNum
      rw [show ((E : Int) - 150 - ((E : Int) - 179)).toNat = 29 by omega]
    have hd2 : FP.Core.unitsDen 1 ((E : Int) - 150) ((E : Int) - 179) = 1 := by
      unfold FP.Core.unitsDen
      rw [show ((E : Int) - 179 - ((E : Int) - 150)).toNat = 0 by omega]
    rw [FP.Core.roundRatio, if_neg (by omega), hq, FP.Core.roundAt, hn2, hd2]
    have hne : FP.Core.nearest ((2 ^ 23 + T) * 2 ^ 29) 1 = (2 ^ 23 + T) * 2 ^ 29 := by
      rw [FP.Core.nearest, Nat.mod_one, if_pos (by decide), Nat.div_one]
    rw [hne]
    have e8 := fd_enc (w := T * 2 ^ 29) (E := E) w9 h2
    rw [← e9] at e8
    exact e8
  have f : FP.f2d t = UInt64.ofNat (FP.Core.convert FP.Core.b32 FP.Core.b64 t.toNat) := by
    unfold FP.f2d
    rw [if_neg]
    · rfl
    · show ¬ decide (FP.Core.decode FP.Core.b32 t.toNat = .nan) = true
      rw [ff_dec hn hT h1 (by omega)]
      intro q
      exact absurd (of_decide_eq_true q) (fun h => by cases h)
  rw [f, e]
  exact fd_of (fd_b9 h2 w9)
theorem fd_time {t : UInt32} (h : ff_ok 156 t.toNat) : vf_n64 (FP.f2d t) ∧ FP.dcmp (FP.f2d t) (FP.f2d t) = some .eq := by
  rcases h with h | ⟨E, T, en, hT, h1, h2, -⟩
  · have : t = 0 := UInt32.toNat_inj.mp h
    subst this
    rw [show FP.f2d 0 = 0 by decide +kernel]
    exact ⟨fd_n64 (Nat.zero_le _), by decide +kernel⟩
  · have e := fd_f2d en hT (by omega) (by omega)
    exact ⟨fd_n64 (by rw [e]; omega), fd_cmp e (by omega) (by omega) (by omega)⟩
