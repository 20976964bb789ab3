/-! ROWS OF BITS: a row of 16 cells as a number; the cells that a cutter reaches. -/
def mr_bv (p : Nat → Bool) : BitVec 32 := (BitVec.ofBoolListLE ((List.range 16).map p)).setWidth 32
def mr_w (p : Nat → Bool) : Int32 := Int32.ofBitVec (mr_bv p)
theorem mr_bv_bit (p : Nat → Bool) (i : Nat) : (mr_bv p).getLsbD i = (decide (i < 16) && p i) := by
  unfold mr_bv
  rw [BitVec.getLsbD_setWidth, BitVec.getLsbD_ofBoolListLE]
  by_cases h : i < 16
  · have : i < 32 := by omega
    simp [h, this]
  · simp [h]
theorem mr_w_bv (p : Nat → Bool) : (mr_w p).toBitVec = mr_bv p := rfl
theorem mr_ext {a b : Int32} (h : ∀ i, i < 32 → a.toBitVec.getLsbD i = b.toBitVec.getLsbD i) : a = b := by
  apply Int32.toBitVec_inj.mp
  exact BitVec.eq_of_getLsbD_eq (fun i hi => h i hi)
theorem mr_w_congr {p q : Nat → Bool} (h : ∀ x, x < 16 → p x = q x) : mr_w p = mr_w q := by
  apply mr_ext
  intro i _
  rw [mr_w_bv, mr_w_bv, mr_bv_bit, mr_bv_bit]
  by_cases hi : i < 16
  · rw [h i hi]
  · simp [hi]
theorem mr_and (p q : Nat → Bool) : mr_w p &&& mr_w q = mr_w (fun x => p x && q x) := by
  apply mr_ext
  intro i _
  rw [Int32.toBitVec_and, BitVec.getLsbD_and, mr_w_bv, mr_w_bv, mr_w_bv, mr_bv_bit, mr_bv_bit, mr_bv_bit]
  by_cases hi : i < 16 <;> simp [hi]
theorem mr_sub {p q : Nat → Bool} (h : ∀ x, x < 16 → q x = true → p x = true) : mr_w p - mr_w q = mr_w (fun x => p x && !q x) := by
  have h1 : (mr_w (fun x => p x && !q x)).toBitVec + (mr_w q).toBitVec = (mr_w p).toBitVec := by
    rw [BitVec.add_eq_or_of_and_eq_zero]
    · apply BitVec.eq_of_getLsbD_eq
      intro i _
      rw [BitVec.getLsbD_or, mr_w_bv, mr_w_bv, mr_w_bv, mr_bv_bit, mr_bv_bit, mr_bv_bit]
      by_cases hi : i < 16
      · have := h i hi
        cases hp : p i <;> cases hq : q i <;> simp_all
      · simp [hi]
    · apply BitVec.eq_of_getLsbD_eq
      intro i _
      rw [BitVec.getLsbD_and, mr_w_bv, mr_w_bv, mr_bv_bit, mr_bv_bit]
      by_cases hi : i < 16
      · cases hp : p i <;> cases hq : q i <;> simp_all
      · simp [hi]
  apply Int32.toBitVec_inj.mp
  rw [Int32.toBitVec_sub, ← h1, BitVec.add_sub_cancel]
theorem mr_zero {p : Nat → Bool} : mr_w p = 0 ↔ ∀ x, x < 16 → p x = false := by
  constructor
  · intro h x hx
    have h1 := congrArg (fun v => (Int32.toBitVec v).getLsbD x) h
    simp only [mr_w_bv, mr_bv_bit] at h1
    simpa [hx] using h1
  · intro h
    apply mr_ext
    intro i _
    rw [mr_w_bv, mr_bv_bit]
    by_cases hi : i < 16
    · simp [h i hi]
    · simp [hi]
theorem mr_one : ∀ x, x < 16 → (1 : Int32) <<< (nI x &&& 31) = mr_w (fun i => decide (i = x)) := by decide +kernel
theorem mr_full : mr_w (fun _ => true) = 65535 := by decide +kernel
theorem mr_span : ∀ a, a < 16 → ∀ b, b < 16 → ((1 : Int32) <<< ((nI b + 1) &&& 31)) - (1 <<< (nI a &&& 31)) = mr_w (fun i => decide (a ≤ i) && decide (i ≤ b)) ∨ b < a := by decide +kernel
theorem mr_bit {p : Nat → Bool} {x : Nat} (hx : x < 16) : (mr_w p &&& ((1 : Int32) <<< (nI x &&& 31)) = 0) ↔ p x = false := by
  rw [mr_one x hx, mr_and, mr_zero]
  constructor
  · intro h; have := h x hx; simpa using this
  · intro h i hi
    by_cases hix : i = x
    · subst hix; simp [h]
    · simp [hix]
theorem mr_set {p : Nat → Bool} {x : Nat} (hx : x < 16) : mr_w p ||| ((1 : Int32) <<< (nI x &&& 31)) = mr_w (fun i => decide (i = x) || p i) := by
  rw [mr_one x hx]
  apply mr_ext
  intro i _
  rw [Int32.toBitVec_or, BitVec.getLsbD_or, mr_w_bv, mr_w_bv, mr_w_bv, mr_bv_bit, mr_bv_bit, mr_bv_bit]
  by_cases hi : i < 16
  · simp [hi, Bool.or_comm]
  · simp [hi]
theorem mr_not (a : Int32) (i : Nat) (hi : i < 32) : (a ^^^ (-1 : Int32)).toBitVec.getLsbD i = !(a.toBitVec.getLsbD i) := by
  rw [Int32.toBitVec_xor, BitVec.getLsbD_xor, show (-1 : Int32).toBitVec = BitVec.allOnes 32 by decide +kernel, BitVec.getLsbD_allOnes]
  simp [hi]
theorem mr_clear {p : Nat → Bool} {x : Nat} (hx : x < 16) : mr_w p &&& (((1 : Int32) <<< (nI x &&& 31)) ^^^ (-1)) = mr_w (fun i => !decide (i = x) && p i) := by
  rw [mr_one x hx]
  apply mr_ext
  intro i hi32
  rw [Int32.toBitVec_and, BitVec.getLsbD_and, mr_not _ i hi32, mr_w_bv, mr_w_bv, mr_w_bv, mr_bv_bit, mr_bv_bit, mr_bv_bit]
  by_cases hi : i < 16
  · simp [hi, Bool.and_comm]
  · simp [hi]
theorem mr_less {p q : Nat → Bool} : (mr_w q &&& (mr_w p ^^^ (-1)) = 0) ↔ ∀ x, x < 16 → q x = true → p x = true := by
  have e : mr_w q &&& (mr_w p ^^^ (-1)) = mr_w (fun i => q i && !p i) := by
    apply mr_ext
    intro i hi32
    rw [Int32.toBitVec_and, BitVec.getLsbD_and, mr_not _ i hi32, mr_w_bv, mr_w_bv, mr_w_bv, mr_bv_bit, mr_bv_bit, mr_bv_bit]
    by_cases hi : i < 16 <;> simp [hi]
  rw [e, mr_zero]
  constructor
  · intro h x hx hq
    have := h x hx
    rw [hq] at this
    simpa using this
  · intro h x hx
    cases hq : q x
    · simp
    · simp [h x hx hq]
/-- how many of the first n -/
def mr_cnt : Nat → (Nat → Bool) → Nat
  | 0, _ => 0
  | n + 1, p => mr_cnt n p + cond (p n) 1 0
theorem mr_cnt_le : ∀ (n : Nat) (p : Nat → Bool), mr_cnt n p ≤ n
  | 0, _ => Nat.le_refl _
  | n + 1, p => by
    have := mr_cnt_le n p
    rw [mr_cnt]
    cases p n <;> simp <;> omega
theorem mr_cnt_congr {p q : Nat → Bool} : ∀ n, (∀ k, k < n → p k = q k) → mr_cnt n p = mr_cnt n q
  | 0, _ => rfl
  | n + 1, h => by rw [mr_cnt, mr_cnt, mr_cnt_congr n (fun k hk => h k (by omega)), h n (by omega)]
theorem mr_cnt_add {p : Nat → Bool} (m : Nat) : ∀ n, mr_cnt (m + n) p = mr_cnt m p + mr_cnt n (fun k => p (m + k))
  | 0 => by simp [mr_cnt]
  | n + 1 => by rw [← Nat.add_assoc, mr_cnt, mr_cnt_add m n, mr_cnt]; omega
theorem mr_cnt_zero {p : Nat → Bool} : ∀ n, (∀ k, k < n → p k = false) → mr_cnt n p = 0
  | 0, _ => rfl
  | n + 1, h => by rw [mr_cnt, mr_cnt_zero n (fun k hk => h k (by omega)), h n (by omega)]; rfl
/-- Integer.bitCount on a row: the numbers below 65536, one by one -/
def mr_bcN (x : Nat) : Nat :=
  let x1 := x - ((x >>> 1) &&& 1431655765)
  let x2 := (x1 &&& 858993459) + ((x1 >>> 2) &&& 858993459)
  let x3 := (x2 + (x2 >>> 4)) &&& 252645135
  let x4 := x3 + (x3 >>> 8)
  (x4 + (x4 >>> 16)) &&& 63
