/-! THE ABSTRACT STATE, AND WHAT ONE BLOCK MAKES OF IT. -/
abbrev sx_X : Type := (Nat → Nat → Int32) × (Nat → Int32) × UInt32 × (Nat → Bool)
abbrev sx_X.a (x : sx_X) : Nat → Nat → Int32 := x.1
abbrev sx_X.s (x : sx_X) : Nat → Int32 := x.2.1
abbrev sx_X.t (x : sx_X) : UInt32 := x.2.2.1
abbrev sx_X.S (x : sx_X) : Nat → Bool := x.2.2.2
noncomputable def sx_go (ha : Nat → Nat → Int32) (hz : Int32) (N : Nat) (a : Nat → Nat → Int32) (q : Nat → Int32) (sh R X Y Z : Nat) (S : Nat → Bool) (t : UInt32) : sx_X := ⟨mx_A ha hz N a q sh R X Y Z S, mx_Q ha hz N a q sh R S, mx_t ha a q t, mx_S ha a q sh R S⟩
def sx_E (kd : Nat → Int32) (N : Nat) (x y : sx_X) : Prop := (∀ c, c < 12 → x.a 1 c = y.a 1 c) ∧ (∀ j, j < 8 → x.a 2 j = y.a 2 j) ∧ (∀ j, j < 3 → x.a 3 j = y.a 3 j) ∧ (∀ p, p ∈ mw_st kd N → kd p = 114 → x.a 4 p = y.a 4 p) ∧ (∀ j, 8 ≤ j → j ≤ 15 → j ≠ 11 → x.s j = y.s j) ∧ x.t = y.t ∧ ∀ q, q < 1152 → x.S q = y.S q
/-- the model's numbers, as an abstract state -/
def mm_a (ma : Nat → Nat → Int32) : Nat → Nat → Int32
  | 1 => ma 4
  | 2 => ma 9
  | 3 => ma 11
  | 4 => ma 8
  | _ => ma 14
def mm_s (ms : Nat → Int32) : Nat → Int32
  | 8 => ms 17
  | 9 => ms 18
  | 10 => ms 19
  | 12 => ms 20
  | 13 => ms 21
  | 14 => ms 22
  | 15 => ms 23
  | _ => 0
def mm_x (ma : Nat → Nat → Int32) (ms : Nat → Int32) (mt : UInt32) : sx_X := ⟨mm_a ma, mm_s ms, mt, mg_S ma⟩
def mm_up (ms : Nat → Int32) : Nat → Int32 := am_u1 (am_u1 ms 17 (ms 17 + 1)) 18 (ms 18 + 1)
def mm_ok (ma : Nat → Nat → Int32) (ms : Nat → Int32) (mb : Nat → Nat → Int32) (ms9 : Nat → Int32) : Prop := (∀ i, i ≠ 4 → i ≠ 8 → i ≠ 9 → i ≠ 11 → i ≠ 12 → i ≠ 14 → mb i = ma i) ∧ ∀ j, j < 17 ∨ j = 18 ∨ j = 24 ∨ j = 25 → ms9 j = ms j
theorem me_ar_no {ha : Nat → Nat → Int32} {hz : Int32} {N lv : Nat} {a : Nat → Nat → Int32} {s : Nat → Int32} (h1 : ¬ s 16 = 118) (h2 : ¬ s 16 = 120) (h3 : ¬ (s 16 = 114 ∨ s 16 = 105)) (h4 : ¬ s 16 = 101) : me_ar ha hz N a s lv = a := by
  rw [me_ar, if_neg h1, if_neg h2, if_neg h3, if_neg h4]
theorem me_nx_no {ha : Nat → Nat → Int32} {hz : Int32} {N : Nat} {a : Nat → Nat → Int32} {s : Nat → Int32} (h3 : ¬ (s 16 = 114 ∨ s 16 = 105)) (h4 : ¬ s 16 = 101) : me_nx ha hz N a s = s 8 + 1 := by
  rw [me_nx, if_neg h3, if_neg h4]
theorem me_st_no {ha : Nat → Nat → Int32} {a : Nat → Nat → Int32} {s : Nat → Int32} (h1 : ¬ s 16 = 116) (h2 : ¬ s 16 = 115) (h3 : ¬ s 16 = 102) (h4 : ¬ s 16 = 109) (h5 : ¬ s 16 = 111) : me_st ha a s = s := by
  rw [me_st, if_neg h1, if_neg h2, if_neg h3, if_neg h4, if_neg h5]
def mx_mv (k : Int32) : Prop := k = 103 ∨ k = 108 ∨ k = 100 ∨ k = 112
theorem mx_es_no {ha : Nat → Nat → Int32} {a : Nat → Nat → Int32} {q : Nat → Int32} (h : ¬ mx_mv (q 16)) : mx_es ha a q = [] := by
  rw [mx_es, ml_legs, if_neg (fun r => h (r.elim Or.inl (fun r => Or.inr (Or.inl r)))), if_neg (fun r => h (Or.inr (Or.inr (Or.inl r)))), if_neg (fun r => h (Or.inr (Or.inr (Or.inr r))))]
theorem mx_cut_no {k : Int32} (h : ¬ mx_mv k) : mc_cut k = false := by
  rw [mc_cut, decide_eq_false (fun r => h (Or.inr (Or.inl r))), decide_eq_false (fun r => h (Or.inr (Or.inr (Or.inl r)))), decide_eq_false (fun r => h (Or.inr (Or.inr (Or.inr r))))]
  rfl
theorem mx_al_no {ha : Nat → Nat → Int32} {S T : Nat → Bool} {a : Nat → Nat → Int32} {q : Nat → Int32} {sh R X Y Z : Nat} (h : ¬ mx_mv (q 16)) : mx_al ha S T a q sh R X Y Z = if mc_told ha (q 16) (q 17) (q 18) (q 19) = false then 110 else if ¬ mx_tool ha a q = 45 then mx_tool ha a q else if q 16 = 120 ∧ mx_d (mx_meet S sh R X Y Z) = true then 120 else 45 := by
  rw [mx_al, mx_es_no h]
  have : me_cell (q 16) (q 10) S T sh R X Y Z [] = if q 16 = 120 ∧ mx_d (mx_meet S sh R X Y Z) = true then 120 else 45 := by
    rw [me_cell, if_neg (by decide), if_neg]
    rintro ⟨-, h1 | ⟨-, h1⟩⟩
    · obtain ⟨e, he, -⟩ := mx_d_iff.mp h1
      exact absurd he List.not_mem_nil
    · obtain ⟨e, he, -⟩ := mx_d_iff.mp h1
      exact absurd he List.not_mem_nil
  rw [this]
theorem mx_S_no {ha : Nat → Nat → Int32} {a : Nat → Nat → Int32} {q : Nat → Int32} {sh R : Nat} {S : Nat → Bool} (h : ¬ mx_mv (q 16)) : mx_S ha a q sh R S = S := by
  rw [mx_S, if_neg (by rw [mx_cut_no h]; decide)]
theorem mx_t_no {ha : Nat → Nat → Int32} {a : Nat → Nat → Int32} {q : Nat → Int32} {t : UInt32} (h : ¬ mx_mv (q 16)) : mx_t ha a q t = t := by
  rw [mx_t, mx_es_no h, ml_tm]
theorem mx_u_no {ha : Nat → Nat → Int32} {a : Nat → Nat → Int32} {q : Nat → Int32} {sh R : Nat} {S : Nat → Bool} (h : ¬ mx_mv (q 16)) : mx_u ha a q sh R S = a 1 := by
  rw [mx_u, if_neg (by rw [mx_cut_no h]; decide)]
theorem mp_3_j {f : Nat → Int32} {x y z : Int32} {j : Nat} (hj : j < 3) : mp_3 f 0 x y z j = if j = 0 then x else if j = 1 then y else z := by
  have : j = 0 ∨ j = 1 ∨ j = 2 := by omega
  rcases this with rfl | rfl | rfl
  · exact mp_3_0
  · exact mp_3_1
  · exact mp_3_2
theorem mx_p_no {ha : Nat → Nat → Int32} {a : Nat → Nat → Int32} {q : Nat → Int32} (h : ¬ mx_mv (q 16)) {j : Nat} (hj : j < 3) : mx_p ha a q j = a 3 j := by
  have h1 : ¬ (q 16 = 103 ∨ q 16 = 108) := fun r => h (r.elim Or.inl (fun r => Or.inr (Or.inl r)))
  have h2 : ¬ q 16 = 112 := fun r => h (Or.inr (Or.inr (Or.inr r)))
  rw [mx_p, mp_3_j hj, ml_ex, ml_ey, ml_ez, if_neg h1, if_neg h1, if_neg h1, if_neg h2, if_neg h2]
  have : j = 0 ∨ j = 1 ∨ j = 2 := by omega
  rcases this with rfl | rfl | rfl
  · rw [if_pos rfl]
  · rw [if_neg (by decide), if_pos rfl]
  · rw [if_neg (by decide), if_neg (by decide)]
theorem mx_a_1 {ha : Nat → Nat → Int32} {a : Nat → Nat → Int32} {q : Nat → Int32} {sh R : Nat} {S : Nat → Bool} : mx_a ha a q sh R S 1 = mx_u ha a q sh R S := rfl
theorem mx_a_2 {ha : Nat → Nat → Int32} {a : Nat → Nat → Int32} {q : Nat → Int32} {sh R : Nat} {S : Nat → Bool} : mx_a ha a q sh R S 2 = a 2 := rfl
theorem mx_a_3 {ha : Nat → Nat → Int32} {a : Nat → Nat → Int32} {q : Nat → Int32} {sh R : Nat} {S : Nat → Bool} : mx_a ha a q sh R S 3 = mx_p ha a q := rfl
theorem mx_a_4 {ha : Nat → Nat → Int32} {a : Nat → Nat → Int32} {q : Nat → Int32} {sh R : Nat} {S : Nat → Bool} : mx_a ha a q sh R S 4 = a 4 := rfl
theorem me_ar_1 {ha : Nat → Nat → Int32} {hz : Int32} {N lv : Nat} {a : Nat → Nat → Int32} {s : Nat → Int32} : me_ar ha hz N a s lv 1 = a 1 := by
  simp only [me_ar, me_ca]
  repeat' split
  all_goals rfl
theorem me_ar_3 {ha : Nat → Nat → Int32} {hz : Int32} {N lv : Nat} {a : Nat → Nat → Int32} {s : Nat → Int32} : me_ar ha hz N a s lv 3 = a 3 := by
  simp only [me_ar, me_ca]
  repeat' split
  all_goals rfl
theorem me_ar_2 {ha : Nat → Nat → Int32} {hz : Int32} {N lv : Nat} {a : Nat → Nat → Int32} {s : Nat → Int32} (h1 : ¬ s 16 = 118) (h2 : ¬ s 16 = 120) : me_ar ha hz N a s lv 2 = a 2 := by
  rw [me_ar, if_neg h1, if_neg h2]
  simp only [me_ca]
  repeat' split
  all_goals rfl
theorem me_ar_4 {ha : Nat → Nat → Int32} {hz : Int32} {N lv : Nat} {a : Nat → Nat → Int32} {s : Nat → Int32} (h3 : ¬ (s 16 = 114 ∨ s 16 = 105)) (h4 : ¬ s 16 = 101) : me_ar ha hz N a s lv 4 = a 4 := by
  simp only [me_ar, if_neg h3, if_neg h4]
  repeat' split
  all_goals rfl
/-- the numbers after a block, but next and done -/
theorem mx_Q_lo {ha : Nat → Nat → Int32} {hz : Int32} {N : Nat} {a : Nat → Nat → Int32} {q : Nat → Int32} {sh R : Nat} {S : Nat → Bool} {j : Nat} (h8 : j ≠ 8) (h9 : j ≠ 9) : mx_Q ha hz N a q sh R S j = me_st ha (mx_a ha a q sh R S) q j := by
  rw [mx_Q]
  simp only [am_u1, beq_no h8, beq_no h9, cond_false]
theorem mx_Q_8 {ha : Nat → Nat → Int32} {hz : Int32} {N : Nat} {a : Nat → Nat → Int32} {q : Nat → Int32} {sh R : Nat} {S : Nat → Bool} : mx_Q ha hz N a q sh R S 8 = me_nx ha hz N (mx_a ha a q sh R S) q := rfl
theorem mx_Q_9 {ha : Nat → Nat → Int32} {hz : Int32} {N : Nat} {a : Nat → Nat → Int32} {q : Nat → Int32} {sh R : Nat} {S : Nat → Bool} : mx_Q ha hz N a q sh R S 9 = q 9 + 1 := rfl
/-- a block that doesn't move: what is the same after it -/
theorem sx_go_E {ha : Nat → Nat → Int32} {hz : Int32} {N N' : Nat} {a : Nat → Nat → Int32} {q : Nat → Int32} {sh R X Y Z : Nat} {S : Nat → Bool} {t : UInt32} {y : sx_X} (h : ¬ mx_mv (q 16)) (h1 : ∀ c, c < 12 → a 1 c = y.a 1 c) (h2 : ∀ j, j < 8 → me_ar ha hz N (mx_a ha a q sh R S) q (mx_lv S sh R X Y Z) 2 j = y.a 2 j) (h3 : ∀ j, j < 3 → a 3 j = y.a 3 j) (h4 : ∀ p, p ∈ mw_st (ha 5) N' → ha 5 p = 114 → me_ar ha hz N (mx_a ha a q sh R S) q (mx_lv S sh R X Y Z) 4 p = y.a 4 p) (h8 : me_nx ha hz N (mx_a ha a q sh R S) q = y.s 8) (h9 : q 9 + 1 = y.s 9) (h10 : ∀ j, 10 ≤ j → j ≤ 15 → j ≠ 11 → me_st ha (mx_a ha a q sh R S) q j = y.s j) (ht : t = y.t) (hS : ∀ q, q < 1152 → S q = y.S q) : sx_E (ha 5) N' (sx_go ha hz N a q sh R X Y Z S t) y := by
  refine ⟨fun c hc => ?_, fun j hj => ?_, fun j hj => ?_, fun p hp h5 => ?_, fun j hj hj2 hj3 => ?_, ?_, ?_⟩
  · show mx_A ha hz N a q sh R X Y Z S 1 c = _
    rw [mx_A, me_ar_1, mx_a_1, mx_u_no h]
    exact h1 c hc
  · show mx_A ha hz N a q sh R X Y Z S 2 j = _
    rw [mx_A, mx_S_no h]
    exact h2 j hj
  · show mx_A ha hz N a q sh R X Y Z S 3 j = _
    rw [mx_A, me_ar_3, mx_a_3, mx_p_no h hj]
    exact h3 j hj
  · show mx_A ha hz N a q sh R X Y Z S 4 p = _
    rw [mx_A, mx_S_no h]
    exact h4 p hp h5
  · show mx_Q ha hz N a q sh R S j = _
    by_cases h18 : j = 8
    · subst h18; exact h8
    · by_cases h19 : j = 9
      · subst h19; exact h9
      · rw [mx_Q_lo h18 h19]
        exact h10 j (by omega) hj2 hj3
  · exact (mx_t_no h).trans ht
  · show ∀ r, r < 1152 → mx_S ha a q sh R S r = _
    rw [mx_S_no h]
    exact hS
/-- a block that moves -/
theorem sx_go_M {ha : Nat → Nat → Int32} {hz : Int32} {N N' : Nat} {a : Nat → Nat → Int32} {q : Nat → Int32} {sh R X Y Z : Nat} {S : Nat → Bool} {t : UInt32} {y : sx_X} (h : mx_mv (q 16)) (h1 : ∀ c, c < 12 → mx_u ha a q sh R S c = y.a 1 c) (h2 : ∀ j, j < 8 → a 2 j = y.a 2 j) (h3 : ∀ j, j < 3 → mx_p ha a q j = y.a 3 j) (h4 : ∀ p, p ∈ mw_st (ha 5) N' → ha 5 p = 114 → a 4 p = y.a 4 p) (h8 : q 8 + 1 = y.s 8) (h9 : q 9 + 1 = y.s 9) (h10 : ∀ j, 10 ≤ j → j ≤ 15 → j ≠ 11 → q j = y.s j) (ht : mx_t ha a q t = y.t) (hS : ∀ r, r < 1152 → mx_S ha a q sh R S r = y.S r) : sx_E (ha 5) N' (sx_go ha hz N a q sh R X Y Z S t) y := by
  have e1 : ¬ q 16 = 118 := fun r => by rw [r] at h; exact absurd h (by unfold mx_mv; decide)
  have e2 : ¬ q 16 = 120 := fun r => by rw [r] at h; exact absurd h (by unfold mx_mv; decide)
  have e3 : ¬ (q 16 = 114 ∨ q 16 = 105) := fun r => by rcases r with r | r <;> (rw [r] at h; exact absurd h (by unfold mx_mv; decide))
  have e4 : ¬ q 16 = 101 := fun r => by rw [r] at h; exact absurd h (by unfold mx_mv; decide)
  have e5 : ¬ q 16 = 116 := fun r => by rw [r] at h; exact absurd h (by unfold mx_mv; decide)
  have e6 : ¬ q 16 = 115 := fun r => by rw [r] at h; exact absurd h (by unfold mx_mv; decide)
  have e7 : ¬ q 16 = 102 := fun r => by rw [r] at h; exact absurd h (by unfold mx_mv; decide)
  have e8 : ¬ q 16 = 109 := fun r => by rw [r] at h; exact absurd h (by unfold mx_mv; decide)
  have e9 : ¬ q 16 = 111 := fun r => by rw [r] at h; exact absurd h (by unfold mx_mv; decide)
  refine ⟨fun c hc => ?_, fun j hj => ?_, fun j hj => ?_, fun p hp h5 => ?_, fun j hj hj2 hj3 => ?_, ht, hS⟩
  · show mx_A ha hz N a q sh R X Y Z S 1 c = _
    rw [mx_A, me_ar_1, mx_a_1]
    exact h1 c hc
  · show mx_A ha hz N a q sh R X Y Z S 2 j = _
    rw [mx_A, me_ar_no e1 e2 e3 e4, mx_a_2]
    exact h2 j hj
  · show mx_A ha hz N a q sh R X Y Z S 3 j = _
    rw [mx_A, me_ar_3, mx_a_3]
    exact h3 j hj
  · show mx_A ha hz N a q sh R X Y Z S 4 p = _
    rw [mx_A, me_ar_no e1 e2 e3 e4, mx_a_4]
    exact h4 p hp h5
  · show mx_Q ha hz N a q sh R S j = _
    by_cases h18 : j = 8
    · subst h18; rw [mx_Q_8, me_nx_no e3 e4]; exact h8
    · by_cases h19 : j = 9
      · subst h19; exact h9
      · rw [mx_Q_lo h18 h19, me_st_no e5 e6 e7 e8 e9]
        exact h10 j (by omega) hj2 hj3
