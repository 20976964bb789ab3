/-! BITCOUNT, AND WHAT A CUTTER REACHES. -/
theorem mr_nI_bv (n : Nat) : (nI n).toBitVec = BitVec.ofNat 32 n := rfl
theorem mr_andN (a b : Nat) : nI a &&& nI b = nI (a &&& b) := by
  apply Int32.toBitVec_inj.mp
  apply BitVec.eq_of_toNat_eq
  rw [Int32.toBitVec_and, BitVec.toNat_and, mr_nI_bv, mr_nI_bv, mr_nI_bv, BitVec.toNat_ofNat, BitVec.toNat_ofNat, BitVec.toNat_ofNat, Nat.and_mod_two_pow]
theorem mr_usN {n : Nat} (hn : n < 2 ^ 32) (s : Int32) (k : Nat) (hs : ((s.toUInt32 &&& Int32.toUInt32 31).toBitVec % 32).toNat = k) : mi_us (nI n) s = nI (n >>> k) := by
  rw [Nat.shiftRight_eq_div_pow]
  exact pk_ushrN hn s k hs
theorem mr_bc_nI {v : Nat} (hv : v < 65536) : mi_bc (nI v) = nI (mr_bcN v) := by
  have a1 : mi_bc1 (nI v) = nI (v - ((v >>> 1) &&& 1431655765)) := by
    have hle : (v >>> 1) &&& 1431655765 ≤ v := Nat.le_trans Nat.and_le_left (by rw [Nat.shiftRight_eq_div_pow]; exact Nat.div_le_self _ _)
    unfold mi_bc1
    rw [mr_usN (by omega) 1 1 (by decide +kernel), show (1431655765 : Int32) = nI 1431655765 from rfl, mr_andN, pk_sub hle]
  have b1 : v - ((v >>> 1) &&& 1431655765) < 65536 := by omega
  generalize hx1 : v - ((v >>> 1) &&& 1431655765) = x1 at a1 b1
  have a2 : mi_bc2 (nI x1) = nI ((x1 &&& 858993459) + ((x1 >>> 2) &&& 858993459)) := by
    unfold mi_bc2
    rw [mr_usN (by omega) 2 2 (by decide +kernel), show (858993459 : Int32) = nI 858993459 from rfl, mr_andN, mr_andN, nI_add]
  have b2 : (x1 &&& 858993459) + ((x1 >>> 2) &&& 858993459) < 131072 := by
    have h1 : x1 &&& 858993459 ≤ x1 := Nat.and_le_left
    have h2 : (x1 >>> 2) &&& 858993459 ≤ x1 := Nat.le_trans Nat.and_le_left (by rw [Nat.shiftRight_eq_div_pow]; exact Nat.div_le_self _ _)
    omega
  generalize hx2 : (x1 &&& 858993459) + ((x1 >>> 2) &&& 858993459) = x2 at a2 b2
  have a3 : mi_bc3 (nI x2) = nI ((x2 + (x2 >>> 4)) &&& 252645135) := by
    unfold mi_bc3
    rw [mr_usN (by omega) 4 4 (by decide +kernel), show (252645135 : Int32) = nI 252645135 from rfl, nI_add, mr_andN]
  have b3 : (x2 + (x2 >>> 4)) &&& 252645135 < 2 ^ 28 := Nat.lt_of_le_of_lt Nat.and_le_right (by decide)
  generalize hx3 : (x2 + (x2 >>> 4)) &&& 252645135 = x3 at a3 b3
  have a4 : mi_bc4 (nI x3) = nI (x3 + (x3 >>> 8)) := by
    unfold mi_bc4
    rw [mr_usN (by omega) 8 8 (by decide +kernel), nI_add]
  have b4 : x3 + (x3 >>> 8) < 2 ^ 29 := by
    have : x3 >>> 8 ≤ x3 := by rw [Nat.shiftRight_eq_div_pow]; exact Nat.div_le_self _ _
    omega
  generalize hx4 : x3 + (x3 >>> 8) = x4 at a4 b4
  have a5 : mi_bc5 (nI x4) = nI ((x4 + (x4 >>> 16)) &&& 63) := by
    unfold mi_bc5
    rw [mr_usN (by omega) 16 16 (by decide +kernel), show (63 : Int32) = nI 63 from rfl, nI_add, mr_andN]
  unfold mi_bc mr_bcN
  rw [a1, a2, a3, a4, a5]
  simp only [hx1, hx2, hx3, hx4]
def mr_t (v : Nat) : Bool := Nat.beq (mr_bcN (2 * v)) (mr_bcN v) && Nat.beq (mr_bcN (2 * v + 1)) (mr_bcN v + 1)
def mr_chk : Nat → Nat → Bool
  | 0, v => mr_t v
  | d + 1, v => mr_chk d (2 * v) && mr_chk d (2 * v + 1)
theorem mr_chk_all : ∀ (d v : Nat), mr_chk d v = true → ∀ w, w < 2 ^ d → mr_t (v * 2 ^ d + w) = true
  | 0, v, h, w, hw => by
    obtain rfl : w = 0 := by omega
    simpa [mr_chk] using h
  | d + 1, v, h, w, hw => by
    rw [mr_chk, Bool.and_eq_true] at h
    rw [Nat.pow_succ] at hw ⊢
    by_cases hlt : w < 2 ^ d
    · have := mr_chk_all d (2 * v) h.1 w hlt
      rw [show v * (2 ^ d * 2) + w = 2 * v * 2 ^ d + w by rw [Nat.mul_comm 2 v, Nat.mul_assoc, Nat.mul_comm 2]]
      exact this
    · have := mr_chk_all d (2 * v + 1) h.2 (w - 2 ^ d) (by omega)
      rw [show v * (2 ^ d * 2) + w = (2 * v + 1) * 2 ^ d + (w - 2 ^ d) by
        rw [Nat.add_mul, Nat.one_mul, Nat.mul_comm 2 v, Nat.mul_assoc, Nat.mul_comm 2]; omega]
      exact this
theorem mr_chk15 : mr_chk 15 0 = true := by decide +kernel
theorem mr_half {v : Nat} (hv : v < 32768) : mr_bcN (2 * v) = mr_bcN v ∧ mr_bcN (2 * v + 1) = mr_bcN v + 1 := by
  have h := mr_chk_all 15 0 mr_chk15 v hv
  rw [Nat.zero_mul, Nat.zero_add, mr_t, Bool.and_eq_true] at h
  exact ⟨Nat.eq_of_beq_eq_true h.1, Nat.eq_of_beq_eq_true h.2⟩
theorem mr_pop : ∀ (n v : Nat), n ≤ 16 → v < 2 ^ n → mr_bcN v = mr_cnt n (fun i => v.testBit i)
  | 0, v, _, h => by
    obtain rfl : v = 0 := by omega
    decide
  | n + 1, v, hn, h => by
    have hp : (2 : Nat) ^ n ≤ 2 ^ 15 := Nat.pow_le_pow_right (by decide) (by omega)
    rw [Nat.pow_succ] at h
    have ih := mr_pop n (v / 2) (by omega) (by omega)
    have e : mr_cnt (n + 1) (fun i => v.testBit i) = cond (v.testBit 0) 1 0 + mr_cnt n (fun i => (v / 2).testBit i) := by
      rw [Nat.add_comm n 1, mr_cnt_add 1 n]
      congr 1
      · simp [mr_cnt]
      · apply mr_cnt_congr
        intro k _
        rw [Nat.add_comm 1 k, Nat.testBit_succ]
    rw [e, ← ih]
    obtain ⟨h1, h2⟩ := mr_half (v := v / 2) (by omega)
    rcases Nat.mod_two_eq_zero_or_one v with h0 | h0
    · have : v = 2 * (v / 2) := by omega
      have t0 : v.testBit 0 = false := by rw [Nat.testBit_zero, h0]; rfl
      rw [t0]
      conv => lhs; rw [this]
      rw [h1]; simp
    · have : v = 2 * (v / 2) + 1 := by omega
      have t0 : v.testBit 0 = true := by rw [Nat.testBit_zero, h0]; rfl
      rw [t0]
      conv => lhs; rw [this]
      rw [h2]; simp; omega
theorem mr_bc (p : Nat → Bool) : mi_bc (mr_w p) = nI (mr_cnt 16 p) := by
  have hb : ∀ i, (mr_bv p).toNat.testBit i = (decide (i < 16) && p i) := fun i => by
    rw [BitVec.testBit_toNat, mr_bv_bit]
  have hlt : (mr_bv p).toNat < 2 ^ 16 := Nat.lt_pow_two_of_testBit _ (fun i hi => by
    rw [hb]
    simp [Nat.not_lt.mpr hi])
  have e : mr_w p = nI (mr_bv p).toNat := by
    apply Int32.toBitVec_inj.mp
    rw [mr_w_bv, mr_nI_bv]
    simp
  rw [e, mr_bc_nI hlt, mr_pop 16 _ (Nat.le_refl _) hlt]
  congr 1
  apply mr_cnt_congr
  intro k hk
  rw [hb]
  simp [hk]
/-- the square of the distance of two numbers -/
def mr_d (a b : Nat) : Nat := (a - b) * (a - b) + (b - a) * (b - a)
/-- the greatest square that a cutter reaches at a height -/
def mr_sq (s R l : Nat) : Nat := if s = 101 then R * R else if s = 118 then (min l R) * (min l R) else R * R - (R - min l R) * (R - min l R)
/-- a cutter of the shape s and the radius R at the place X, Y, Z reaches the cell k -/
def mr_re (s R X Y Z k : Nat) : Bool := decide (Z ≤ k / 192) && decide (mr_d (k % 16) X + mr_d (k / 16 % 12) Y ≤ mr_sq s R (k / 192 - Z))
theorem mr_sq_le {s R l : Nat} (hR : R ≤ 3) : mr_sq s R l ≤ 9 := by
  have h : R * R ≤ 3 * 3 := Nat.mul_le_mul hR hR
  unfold mr_sq
  split
  · exact h
  · split
    · have : min l R ≤ 3 := by omega
      exact Nat.mul_le_mul this this
    · omega
theorem mr_sq_R {s R l : Nat} : mr_sq s R l ≤ R * R := by
  unfold mr_sq
  split
  · exact Nat.le_refl _
  · split
    · have : min l R ≤ R := by omega
      exact Nat.mul_le_mul this this
    · omega
theorem mr_d_far {a b R : Nat} (h : R + b < a ∨ R + a < b) : R * R < mr_d a b := by
  unfold mr_d
  rcases h with h | h
  · have : R + 1 ≤ a - b := by omega
    have := Nat.mul_le_mul this this
    have : R * R < (R + 1) * (R + 1) := by simp [Nat.add_mul, Nat.mul_add]; omega
    omega
  · have : R + 1 ≤ b - a := by omega
    have := Nat.mul_le_mul this this
    have : R * R < (R + 1) * (R + 1) := by simp [Nat.add_mul, Nat.mul_add]; omega
    omega
theorem mr_re_far {s R X Y Z k : Nat} (h : k / 192 < Z ∨ R + Y < k / 16 % 12 ∨ R + k / 16 % 12 < Y) : mr_re s R X Y Z k = false := by
  unfold mr_re
  rcases h with h | h
  · simp [Nat.not_le.mpr h]
  · have h1 := mr_d_far (a := k / 16 % 12) (b := Y) (R := R) h
    have h2 := mr_sq_R (s := s) (R := R) (l := k / 192 - Z)
    have : ¬ (mr_d (k % 16) X + mr_d (k / 16 % 12) Y ≤ mr_sq s R (k / 192 - Z)) := by omega
    simp [this]
