/-! THE GEOMETRY OF LEGS: lengths, the cells on the way, in the space or out of it. -/
theorem ig_neg {m : Nat} (hm : m < 2 ^ 31) : (-nI m).toInt = -(m : Int) := by
  rw [Int32.toInt_neg, nI_toInt hm]
  exact Int.bmod_eq_of_le (by omega) (by omega)
theorem ig_ndiv {m n : Nat} (hm : m < 2 ^ 31) (h0 : 0 < n) (hn : n < 2 ^ 31) : -nI m / nI n = -nI (m / n) := by
  have hd : m / n ≤ m := Nat.div_le_self m n
  apply Int32.toInt_inj.mp
  rw [Int32.toInt_div, ig_neg hm, nI_toInt hn, ig_neg (by omega), Int.neg_tdiv, Int.tdiv_eq_ediv_of_nonneg (by omega)]
  rw [show ((m : Int) / (n : Int)) = ((m / n : Nat) : Int) from (Int.natCast_ediv m n).symm]
  generalize m / n = w at hd ⊢
  exact Int.bmod_eq_of_le (by omega) (by omega)
/-- a small number, of either sign -/
def ig_bd (n : Nat) (x : Int32) : Prop := n ≤ 200 ∧ (x = nI n ∨ x = -nI n)
theorem ig_of {x : Int32} (h1 : -200 ≤ x.toInt) (h2 : x.toInt ≤ 200) : ig_bd x.toInt.natAbs x := by
  refine ⟨by omega, ?_⟩
  by_cases h : 0 ≤ x.toInt
  · left
    apply Int32.toInt_inj.mp
    rw [nI_toInt (by omega)]
    omega
  · right
    apply Int32.toInt_inj.mp
    rw [ig_neg (by omega)]
    omega
theorem ig_abs : ∀ n, n < 201 → mp_ab (nI n) = nI n ∧ mp_ab (-nI n) = nI n ∧ mi_abs (nI n) = nI n ∧ mi_abs (-nI n) = nI n := by decide +kernel
theorem ig_ab {n : Nat} {x : Int32} (h : ig_bd n x) : mp_ab x = nI n ∧ mi_abs x = nI n := by
  obtain ⟨h1, rfl | rfl⟩ := h
  · exact ⟨(ig_abs n (by omega)).1, (ig_abs n (by omega)).2.2.1⟩
  · exact ⟨(ig_abs n (by omega)).2.1, (ig_abs n (by omega)).2.2.2⟩
theorem ig_mx {a b : Nat} (ha : a ≤ 200) (hb : b ≤ 200) : mp_mx (nI a) (nI b) = nI (max a b) ∧ mi_max (nI a) (nI b) = nI (max a b) := by
  rw [mp_mx, mi_max]
  constructor
  · split
    · rename_i h
      have := (nI_leI (by omega) (by omega)).mp h
      rw [Nat.max_eq_left this]
    · rename_i h
      have : ¬ b ≤ a := fun q => h ((nI_leI (by omega) (by omega)).mpr q)
      rw [Nat.max_eq_right (by omega)]
  · split
    · rename_i h
      have : b < a := by
        apply Nat.lt_of_not_le
        intro q
        exact absurd h (Int32.not_lt.mpr ((nI_leI (by omega) (by omega)).mpr q))
      rw [Nat.max_eq_left (by omega)]
    · rename_i h
      have : a ≤ b := by
        have := Int32.not_lt.mp h
        exact (nI_leI (by omega) (by omega)).mp this
      rw [Nat.max_eq_right this]
theorem ig_n {x y z dx dy dz : Int32} {p q r : Nat} (hp : ig_bd p dx) (hq : ig_bd q dy) (hr : ig_bd r dz) : ml_n (x, y, z, dx, dy, dz) = nI (max (max p q) r) ∧ mg_n (x, y, z, dx, dy, dz) = nI (max (max p q) r) ∧ ml_N (x, y, z, dx, dy, dz) = max (max p q) r := by
  have h1 := hp.1
  have h2 := hq.1
  have h3 := hr.1
  have e : ml_n (x, y, z, dx, dy, dz) = nI (max (max p q) r) := by
    show mp_mx (mp_mx (mp_mx 0 (mp_ab dx)) (mp_ab dy)) (mp_ab dz) = _
    rw [(ig_ab hp).1, (ig_ab hq).1, (ig_ab hr).1, show mp_mx 0 (nI p) = nI p from (ig_mx (a := 0) (by omega) h1).1.trans (by rw [Nat.max_eq_right (Nat.zero_le _)]), (ig_mx h1 h2).1, (ig_mx (by omega) h3).1]
  refine ⟨e, ?_, ?_⟩
  · show mi_max (mi_abs dx) (mi_max (mi_abs dy) (mi_abs dz)) = _
    rw [(ig_ab hp).2, (ig_ab hq).2, (ig_ab hr).2, (ig_mx h2 h3).2, (ig_mx h1 (by omega)).2, Nat.max_assoc]
  · rw [ml_N, e, nI_clamp (by omega)]
def ig_few (e : ml_L) : Prop := ∃ p q r, ig_bd p e.2.2.2.1 ∧ ig_bd q e.2.2.2.2.1 ∧ ig_bd r e.2.2.2.2.2
theorem ig_few_mg {e : ml_L} (h : ig_few e) : mg_few e := by
  obtain ⟨p, q, r, hp, hq, hr⟩ := h
  obtain ⟨x, y, z, dx, dy, dz⟩ := e
  obtain ⟨e1, e2, e3⟩ := ig_n (x := x) (y := y) (z := z) hp hq hr
  have h1 := hp.1
  have h2 := hq.1
  have h3 := hr.1
  exact ⟨by rw [e2, e3], by rw [e1, e3], by rw [e3]; omega⟩
theorem ig_end1 {x dx : Int32} {p N : Nat} (hp : ig_bd p dx) (h0 : 0 < N) (hN : N ≤ 200) : ml_q x dx (nI N) (nI N) = x + dx := by
  rw [ml_q, if_neg (nI_ne0 h0 (by omega))]
  have h1 := hp.1
  have hb : p * N < 2 ^ 31 := Nat.lt_of_le_of_lt (Nat.mul_le_mul h1 hN) (by decide)
  obtain ⟨-, rfl | rfl⟩ := hp
  · rw [pk_mul, pk_div hb h0 (by omega), Nat.mul_div_cancel _ h0]
  · rw [Int32.neg_mul, pk_mul, ig_ndiv hb h0 (by omega), Nat.mul_div_cancel _ h0]
theorem ig_at_end {e : ml_L} (h : ig_few e) (h0 : 1 ≤ ml_N e) : mg_at e (ml_N e) = ml_ins e := by
  obtain ⟨p, q, r, hp, hq, hr⟩ := h
  obtain ⟨x, y, z, dx, dy, dz⟩ := e
  obtain ⟨e1, e2, e3⟩ := ig_n (x := x) (y := y) (z := z) hp hq hr
  have h1 := hp.1
  have h2 := hq.1
  have h3 := hr.1
  rw [e3] at h0
  rw [mg_at, ml_ins, ml_x, ml_y, ml_z, e1, e3]
  show mi_place (ml_q x dx _ _) (ml_q y dy _ _) (ml_q z dz _ _) = mi_place (x + dx) (y + dy) (z + dz)
  rw [ig_end1 hp h0 (by omega), ig_end1 hq h0 (by omega), ig_end1 hr h0 (by omega)]
theorem ig_zero {n : Nat} {x : Int32} (h : ig_bd n x) (h0 : n = 0) : x = 0 := by
  subst h0
  obtain ⟨-, rfl | rfl⟩ := h <;> rfl
/-- in the space -/
def ig_in (x y z : Int32) : Prop := ∃ X Y Z, X < 16 ∧ Y < 12 ∧ Z < 10 ∧ x = nI X ∧ y = nI Y ∧ z = nI Z
theorem ig_in_iff {x y z : Int32} : mi_place x y z = true ↔ ig_in x y z := by
  rw [mi_place, Bool.and_eq_true, Bool.and_eq_true]
  constructor
  · rintro ⟨⟨h1, h2⟩, h3⟩
    obtain ⟨X, hX, rfl⟩ := mi_iw_nI (N := 15) rfl (by decide) h1
    obtain ⟨Y, hY, rfl⟩ := mi_iw_nI (N := 11) rfl (by decide) h2
    obtain ⟨Z, hZ, rfl⟩ := mi_iw_nI (N := 9) rfl (by decide) h3
    exact ⟨X, Y, Z, by omega, by omega, by omega, rfl, rfl, rfl⟩
  · rintro ⟨X, Y, Z, hX, hY, hZ, rfl, rfl, rfl⟩
    exact ⟨⟨mi_iw_at (N := 15) (by decide) (by omega), mi_iw_at (N := 11) (by decide) (by omega)⟩, mi_iw_at (N := 9) (by decide) (by omega)⟩
/-- from a to b in N steps: the k-th lies between -/
theorem ig_q {a b N k : Nat} (ha : a < 16) (hb : b < 16) (h1 : a ≤ b + N) (h2 : b ≤ a + N) (hk : 1 ≤ k) (hkN : k ≤ N) (hN : N < 100) : ∃ r, r ≤ max a b ∧ ml_q (nI a) (nI b - nI a) (nI k) (nI N) = nI r := by
  rw [ml_q, if_neg (nI_ne0 (by omega) (by omega))]
  by_cases h : a ≤ b
  · rw [pk_sub h, pk_mul, pk_div (Nat.lt_of_le_of_lt (Nat.mul_le_mul (show b - a ≤ 16 by omega) (show k ≤ 100 by omega)) (by decide)) (by omega) (by omega), nI_add]
    refine ⟨_, ?_, rfl⟩
    have h3 : (b - a) * k / N ≤ b - a := by
      apply Nat.div_le_of_le_mul
      rw [Nat.mul_comm N]
      exact Nat.mul_le_mul_left _ hkN
    omega
  · have e : nI b - nI a = -nI (a - b) := by
      rw [← pk_sub (show b ≤ a by omega), Int32.neg_sub]
    rw [e, Int32.neg_mul, pk_mul, ig_ndiv (Nat.lt_of_le_of_lt (Nat.mul_le_mul (show a - b ≤ 16 by omega) (show k ≤ 100 by omega)) (by decide)) (by omega) (by omega)]
    have h3 : (a - b) * k / N ≤ a - b := by
      apply Nat.div_le_of_le_mul
      rw [Nat.mul_comm N]
      exact Nat.mul_le_mul_left _ hkN
    generalize (a - b) * k / N = w at h3 ⊢
    refine ⟨a - w, by omega, ?_⟩
    rw [← pk_sub (by omega), Int32.sub_eq_add_neg]
theorem ig_dif {a b : Nat} (ha : a < 16) (hb : b < 16) : ig_bd (max a b - min a b) (nI b - nI a) := by
  refine ⟨by omega, ?_⟩
  by_cases h : a ≤ b
  · left
    rw [pk_sub h, Nat.max_eq_right h, Nat.min_eq_left h]
  · right
    rw [Nat.max_eq_left (by omega), Nat.min_eq_right (by omega), ← pk_sub (show b ≤ a by omega), Int32.neg_sub]
theorem ig_inn {e : ml_L} (h1 : ig_in e.1 e.2.1 e.2.2.1) (h2 : ig_in (e.1 + e.2.2.2.1) (e.2.1 + e.2.2.2.2.1) (e.2.2.1 + e.2.2.2.2.2)) : ml_inn e ∧ ml_N e ≤ 15 := by
  obtain ⟨x, y, z, dx, dy, dz⟩ := e
  obtain ⟨X, Y, Z, hX, hY, hZ, e1, e2, e3⟩ := h1
  obtain ⟨U, V, W, hU, hV, hW, g1, g2, g3⟩ := h2
  replace e1 : x = nI X := e1
  replace e2 : y = nI Y := e2
  replace e3 : z = nI Z := e3
  replace g1 : x + dx = nI U := g1
  replace g2 : y + dy = nI V := g2
  replace g3 : z + dz = nI W := g3
  have d1 : dx = nI U - nI X := by rw [← g1, ← e1]; grind
  have d2 : dy = nI V - nI Y := by rw [← g2, ← e2]; grind
  have d3 : dz = nI W - nI Z := by rw [← g3, ← e3]; grind
  subst e1 e2 e3
  have b1 := ig_dif hX hU
  have b2 := ig_dif (a := Y) (b := V) (by omega) (by omega)
  have b3 := ig_dif (a := Z) (b := W) (by omega) (by omega)
  rw [← d1] at b1
  rw [← d2] at b2
  rw [← d3] at b3
  obtain ⟨n1, n2, n3⟩ := ig_n (x := nI X) (y := nI Y) (z := nI Z) b1 b2 b3
  refine ⟨⟨by rw [n1, n3], by rw [n3]; omega, fun k hk hkN => ?_⟩, by rw [n3]; omega⟩
  rw [n3] at hkN
  rw [ml_x, ml_y, ml_z, n1]
  show ∃ A B C, A < 16 ∧ B < 12 ∧ C < 10 ∧ ml_q (nI X) dx (nI k) _ = _ ∧ ml_q (nI Y) dy (nI k) _ = _ ∧ ml_q (nI Z) dz (nI k) _ = _
  rw [d1, d2, d3]
  obtain ⟨r1, s1, t1⟩ := ig_q hX hU (N := max (max (max X U - min X U) (max Y V - min Y V)) (max Z W - min Z W)) (by omega) (by omega) hk hkN (by omega)
  obtain ⟨r2, s2, t2⟩ := ig_q (a := Y) (b := V) (by omega) (by omega) (N := max (max (max X U - min X U) (max Y V - min Y V)) (max Z W - min Z W)) (by omega) (by omega) hk hkN (by omega)
  obtain ⟨r3, s3, t3⟩ := ig_q (a := Z) (b := W) (by omega) (by omega) (N := max (max (max X U - min X U) (max Y V - min Y V)) (max Z W - min Z W)) (by omega) (by omega) hk hkN (by omega)
  exact ⟨r1, r2, r3, by omega, by omega, by omega, t1, t2, t3⟩
/-- legs one behind the other -/
def ig_to (e : ml_L) : Int32 × Int32 × Int32 := (e.1 + e.2.2.2.1, e.2.1 + e.2.2.2.2.1, e.2.2.1 + e.2.2.2.2.2)
def ig_lnk : Int32 × Int32 × Int32 → List ml_L → Prop
  | _, [] => True
  | p, e :: r => (e.1, e.2.1, e.2.2.1) = p ∧ ig_lnk (ig_to e) r
def ig_fin : Int32 × Int32 × Int32 → List ml_L → Int32 × Int32 × Int32
  | p, [] => p
  | _, e :: r => ig_fin (ig_to e) r
theorem ig_lnk_app : ∀ (l m : List ml_L) (p : Int32 × Int32 × Int32), ig_lnk p (l ++ m) ↔ ig_lnk p l ∧ ig_lnk (ig_fin p l) m
  | [], m, p => ⟨fun h => ⟨trivial, h⟩, fun h => h.2⟩
  | e :: l, m, p => by
    show (_ = p ∧ ig_lnk (ig_to e) (l ++ m)) ↔ (_ = p ∧ ig_lnk (ig_to e) l) ∧ _
    rw [ig_lnk_app l m]
    exact ⟨fun h => ⟨⟨h.1, h.2.1⟩, h.2.2⟩, fun h => ⟨h.1.1, h.1.2, h.2⟩⟩
theorem ig_fin_app : ∀ (l m : List ml_L) (p : Int32 × Int32 × Int32), ig_fin p (l ++ m) = ig_fin (ig_fin p l) m
  | [], m, p => rfl
  | e :: l, m, p => ig_fin_app l m _
def ig_i3 (p : Int32 × Int32 × Int32) : Prop := ig_in p.1 p.2.1 p.2.2
theorem ig_ins_iff {e : ml_L} : ml_ins e = true ↔ ig_i3 (ig_to e) := ig_in_iff
theorem ig_lnk_in : ∀ (l : List ml_L) (p : Int32 × Int32 × Int32), ig_i3 p → ig_lnk p l → (∀ e ∈ l, ml_ins e = true) → ∀ e ∈ l, ml_inn e ∧ ml_N e ≤ 15
  | [], p, _, _, _, e, he => absurd he List.not_mem_nil
  | x :: l, p, hp, h, hi, e, he => by
    have hx := ig_ins_iff.mp (hi x List.mem_cons_self)
    rcases List.mem_cons.mp he with rfl | he
    · refine ig_inn ?_ hx
      have := h.1
      subst this
      exact hp
    · exact ig_lnk_in l _ hx h.2 (fun e he => hi e (List.mem_cons_of_mem _ he)) e he
theorem ig_one_out {e : ml_L} (hp : ig_in e.1 e.2.1 e.2.2.1) (hf : ig_few e) (h : ∀ i, 1 ≤ i → i ≤ ml_N e → mg_at e i = true) : ml_ins e = true := by
  by_cases h0 : 1 ≤ ml_N e
  · rw [← ig_at_end hf h0]
    exact h _ h0 (Nat.le_refl _)
  · obtain ⟨p, q, r, b1, b2, b3⟩ := hf
    obtain ⟨x, y, z, dx, dy, dz⟩ := e
    obtain ⟨-, -, e3⟩ := ig_n (x := x) (y := y) (z := z) b1 b2 b3
    rw [e3] at h0
    have d1 : dx = 0 := ig_zero b1 (by omega)
    have d2 : dy = 0 := ig_zero b2 (by omega)
    have d3 : dz = 0 := ig_zero b3 (by omega)
    subst d1 d2 d3
    rw [ig_ins_iff]
    show ig_in (x + 0) (y + 0) (z + 0)
    rw [Int32.add_zero, Int32.add_zero, Int32.add_zero]
    exact hp
theorem ig_lnk_out : ∀ (l : List ml_L) (p : Int32 × Int32 × Int32), ig_i3 p → ig_lnk p l → (∀ e ∈ l, ig_few e) → (∀ e ∈ l, ∀ i, 1 ≤ i → i ≤ ml_N e → mg_at e i = true) → ∀ e ∈ l, ml_ins e = true
  | [], p, _, _, _, _, e, he => absurd he List.not_mem_nil
  | x :: l, p, hp, h, hf, hi, e, he => by
    have hx : ml_ins x = true := by
      refine ig_one_out ?_ (hf x List.mem_cons_self) (hi x List.mem_cons_self)
      have := h.1
      subst this
      exact hp
    rcases List.mem_cons.mp he with rfl | he
    · exact hx
    · exact ig_lnk_out l _ (ig_ins_iff.mp hx) h.2 (fun e he => hf e (List.mem_cons_of_mem _ he)) (fun e he => hi e (List.mem_cons_of_mem _ he)) e he
