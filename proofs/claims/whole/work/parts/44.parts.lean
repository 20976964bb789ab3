/-! PARTS: the stack of the blocks that are open in front of a block; partners. (text of gen/sp21.py) -/
def mw_st (kd : Nat → Int32) : Nat → List Nat
  | 0 => []
  | m + 1 => if mi_op (kd m) = true then m :: mw_st kd m else if kd m = 101 then (mw_st kd m).tail else mw_st kd m
theorem mw_op_no {kd : Nat → Int32} {m : Nat} (h : kd m = 101) : ¬ mi_op (kd m) = true := by
  rw [h]; decide
theorem mw_push {kd : Nat → Int32} {m : Nat} (h : mi_op (kd m) = true) : mw_st kd (m + 1) = m :: mw_st kd m := by
  rw [mw_st, if_pos h]
theorem mw_pop {kd : Nat → Int32} {m : Nat} (h : kd m = 101) : mw_st kd (m + 1) = (mw_st kd m).tail := by
  rw [mw_st, if_neg (mw_op_no h), if_pos h]
theorem mw_same {kd : Nat → Int32} {m : Nat} (h : ¬ mi_op (kd m) = true) (h1 : ¬ kd m = 101) : mw_st kd (m + 1) = mw_st kd m := by
  rw [mw_st, if_neg h, if_neg h1]
theorem mw_congr {kd ke : Nat → Int32} : ∀ m, (∀ i, i < m → kd i = ke i) → mw_st kd m = mw_st ke m
  | 0, _ => rfl
  | m + 1, h => by
    rw [mw_st, mw_st, h m (by omega), mw_congr m (fun i hi => h i (by omega))]
/-- what lies under an open block is what was open in front of it -/
theorem mw_suf {kd : Nat → Int32} : ∀ (m : Nat) (l : List Nat) (i : Nat) (r : List Nat), mw_st kd m = l ++ i :: r → i < m ∧ mi_op (kd i) = true ∧ r = mw_st kd i
  | 0, l, i, r, h => by
    have h9 : l ++ i :: r = [] := h.symm
    simp at h9
  | m + 1, l, i, r, h => by
    by_cases h1 : mi_op (kd m) = true
    · rw [mw_push h1] at h
      cases l with
      | nil =>
        rw [List.nil_append] at h
        injection h with h2 h3
        subst h2
        exact ⟨by omega, h1, h3.symm⟩
      | cons x l =>
        rw [List.cons_append] at h
        injection h with h2 h3
        obtain ⟨h4, h5, h6⟩ := mw_suf m l i r h3
        exact ⟨by omega, h5, h6⟩
    · by_cases h2 : kd m = 101
      · rw [mw_pop h2] at h
        cases h9 : mw_st kd m with
        | nil => rw [h9] at h; simp at h
        | cons x t =>
          rw [h9, List.tail_cons] at h
          obtain ⟨h4, h5, h6⟩ := mw_suf m (x :: l) i r (by rw [h9, h]; rfl)
          exact ⟨by omega, h5, h6⟩
      · rw [mw_same h1 h2] at h
        obtain ⟨h4, h5, h6⟩ := mw_suf m l i r h
        exact ⟨by omega, h5, h6⟩
theorem mw_mem {kd : Nat → Int32} {m i : Nat} (h : i ∈ mw_st kd m) : i < m ∧ mi_op (kd i) = true := by
  obtain ⟨l, r, h9⟩ := List.append_of_mem h
  obtain ⟨h4, h5, -⟩ := mw_suf m l i r h9
  exact ⟨h4, h5⟩
theorem mw_head {kd : Nat → Int32} {m p : Nat} {r : List Nat} (h : mw_st kd m = p :: r) : p < m ∧ mi_op (kd p) = true ∧ r = mw_st kd p := mw_suf m [] p r h
/-- an open block was open all the way -/
theorem mw_way {kd : Nat → Int32} {p : Nat} : ∀ (n : Nat), (∃ l, mw_st kd n = l ++ p :: mw_st kd p) → ∀ k, p < k → k ≤ n → ∃ l, mw_st kd k = l ++ p :: mw_st kd p
  | 0, _, k, h1, h2 => by omega
  | n + 1, ⟨l, h⟩, k, h1, h2 => by
    by_cases hk : k = n + 1
    · rw [hk]; exact ⟨l, h⟩
    · refine mw_way n ?_ k h1 (by omega)
      by_cases h3 : mi_op (kd n) = true
      · rw [mw_push h3] at h
        cases l with
        | nil =>
          rw [List.nil_append] at h
          injection h with h4 h5
          omega
        | cons x l =>
          rw [List.cons_append] at h
          injection h with h4 h5
          exact ⟨l, h5⟩
      · by_cases h4 : kd n = 101
        · rw [mw_pop h4] at h
          cases h9 : mw_st kd n with
          | nil => rw [h9] at h; simp at h
          | cons x t =>
            rw [h9, List.tail_cons] at h
            exact ⟨x :: l, by rw [h]; rfl⟩
        · rw [mw_same h3 h4] at h
          exact ⟨l, h⟩
/-- the block that closes a part -/
def mw_cl (kd : Nat → Int32) (i j : Nat) : Prop := i < j ∧ kd j = 101 ∧ mw_st kd j = i :: mw_st kd i ∧ ∀ k, i < k → k ≤ j → ∃ l, mw_st kd k = l ++ i :: mw_st kd i
theorem mw_cl_of {kd : Nat → Int32} {p n : Nat} {r : List Nat} (h1 : kd n = 101) (h : mw_st kd n = p :: r) : mw_cl kd p n := by
  obtain ⟨h2, h3, h4⟩ := mw_head h
  subst h4
  exact ⟨h2, h1, h, mw_way n ⟨[], h⟩⟩
theorem mw_cl_congr {kd ke : Nat → Int32} {i j : Nat} (h : ∀ k, k ≤ j → kd k = ke k) (hc : mw_cl kd i j) : mw_cl ke i j := by
  obtain ⟨h1, h2, h3, h4⟩ := hc
  refine ⟨h1, by rw [← h j (by omega)]; exact h2, ?_, fun k h5 h6 => ?_⟩
  · rw [← mw_congr j (fun k hk => h k (by omega)), ← mw_congr i (fun k hk => h k (by omega))]; exact h3
  · obtain ⟨l, h7⟩ := h4 k h5 h6
    exact ⟨l, by rw [← mw_congr k (fun k hk => h k (by omega)), ← mw_congr i (fun k hk => h k (by omega))]; exact h7⟩
/-- each block's partner, of n blocks -/
def mw_P (kd pt : Nat → Int32) (n : Nat) : Prop := ∀ i, i < n → (kd i = 101 → (mw_st kd i = [] ∧ pt i = -1) ∨ ∃ p r, mw_st kd i = p :: r ∧ pt i = nI p) ∧ (mi_op (kd i) = true → (∃ j, j < n ∧ mw_cl kd i j ∧ pt i = nI j) ∨ (i ∈ mw_st kd n ∧ pt i = -1)) ∧ (¬ mi_op (kd i) = true → ¬ kd i = 101 → pt i = -1)
theorem nI_ne_m1 {n : Nat} (h : n < 2 ^ 31) : ¬ nI n = -1 := fun q => absurd (nI_pos' h) (by rw [q]; decide)
theorem mw_find {kd pt : Nat → Int32} {n : Nat} (hn : n ≤ 64) (h : mw_P kd pt n) : ∀ m, m ≤ n → (∀ i, i ∈ mw_st kd n → i < m) → mp_find kd pt m = (mw_st kd n).head?
  | 0, _, h2 => by
    cases h9 : mw_st kd n with
    | nil => rfl
    | cons x t => exact absurd (h2 x (by rw [h9]; exact List.mem_cons_self)) (by omega)
  | m + 1, h1, h2 => by
    rw [mp_find]
    by_cases h3 : mi_op (kd m) = true ∧ pt m = -1
    · rw [if_pos h3]
      have h4 : m ∈ mw_st kd n := by
        rcases (h m (by omega)).2.1 h3.1 with ⟨j, hj, -, h5⟩ | ⟨h5, -⟩
        · rw [h3.2] at h5
          exact absurd h5.symm (nI_ne_m1 (by omega))
        · exact h5
      cases h9 : mw_st kd n with
      | nil => rw [h9] at h4; simp at h4
      | cons x t =>
        rw [List.head?_cons]
        by_cases h5 : m = x
        · rw [h5]
        · have h6 : x < m := by
            have := h2 x (by rw [h9]; exact List.mem_cons_self)
            omega
          have h7 : m ∈ t := by
            rw [h9] at h4
            exact (List.mem_cons.mp h4).resolve_left h5
          obtain ⟨-, -, h8⟩ := mw_head h9
          rw [h8] at h7
          have := (mw_mem h7).1
          omega
    · rw [if_neg h3]
      refine mw_find hn h m (by omega) (fun i hi => ?_)
      by_cases h4 : i = m
      · subst h4
        exfalso
        apply h3
        obtain ⟨h5, h6⟩ := mw_mem hi
        refine ⟨h6, ?_⟩
        rcases (h i (by omega)).2.1 h6 with ⟨j, hj, hc, h7⟩ | ⟨-, h7⟩
        · -- closed in front of n: then it isn't open at n
          exfalso
          obtain ⟨l, r, h9⟩ := List.append_of_mem hi
          obtain ⟨-, -, h10⟩ := mw_suf n l i r h9
          subst h10
          obtain ⟨l2, h11⟩ := mw_way n ⟨l, h9⟩ (j + 1) (by have := hc.1; omega) (by omega)
          rw [mw_pop hc.2.1, hc.2.2.1, List.tail_cons] at h11
          have h12 := congrArg List.length h11
          rw [List.length_append, List.length_cons] at h12
          omega
        · exact h7
      · have := h2 i hi
        omega
theorem mw_P_0 {kd pt : Nat → Int32} : mw_P kd pt 0 := fun i hi => by omega
theorem mw_upd {kd : Nat → Int32} {n : Nat} {x : Int32} : ∀ i, i < n → upd kd n x i = kd i := fun i hi => pk_un (by omega)
theorem mw_P_app {kd pt : Nat → Int32} {n : Nat} {x : Int32} (hn : n < 64) (h : mw_P kd pt n) : mw_P (upd kd n x) (if x = 101 then mp_close (upd kd n x) (upd pt n (-1)) n else upd pt n (-1)) (n + 1) := by
  have hst : ∀ m, m ≤ n → mw_st (upd kd n x) m = mw_st kd m := fun m hm => mw_congr m (fun i hi => mw_upd i (by omega))
  have hkn : upd kd n x n = x := pk_us
  have hcl : ∀ i j, j < n → mw_cl kd i j → mw_cl (upd kd n x) i j := fun i j hj hc => mw_cl_congr (fun k hk => (mw_upd k (by omega)).symm) hc
  have h' : mw_P (upd kd n x) (upd pt n (-1)) n := by
    intro i hi
    have h9 := h i hi
    rw [show upd kd n x i = kd i from mw_upd i hi, show upd pt n (-1) i = pt i from pk_un (by omega), hst i (by omega), hst n (Nat.le_refl n)]
    refine ⟨h9.1, fun q => ?_, h9.2.2⟩
    rcases h9.2.1 q with ⟨j, hj, hc, hp⟩ | hp
    · exact Or.inl ⟨j, hj, hcl i j hj hc, hp⟩
    · exact Or.inr hp
  by_cases hx : x = 101
  · rw [if_pos hx]
    have hk : upd kd n x n = 101 := hkn.trans hx
    have hf : mp_find (upd kd n x) (upd pt n (-1)) n = (mw_st kd n).head? := by
      rw [← hst n (Nat.le_refl n)]
      exact mw_find (by omega) h' n (Nat.le_refl n) (fun i hi => (mw_mem hi).1)
    unfold mp_close
    cases h9 : mw_st kd n with
    | nil =>
      rw [hf, h9, List.head?_nil]
      intro i hi
      by_cases hin : i = n
      · subst hin
        refine ⟨fun _ => Or.inl ⟨by rw [hst i (Nat.le_refl i)]; exact h9, pk_us⟩, fun q => absurd q (mw_op_no hk), fun _ q => absurd hk q⟩
      · have h8 := h' i (by omega)
        refine ⟨h8.1, fun q => ?_, h8.2.2⟩
        rcases h8.2.1 q with ⟨j, hj, hc, hp⟩ | ⟨hp, -⟩
        · exact Or.inl ⟨j, by omega, hc, hp⟩
        · rw [hst n (Nat.le_refl n), h9] at hp
          simp at hp
    | cons p r =>
      rw [hf, h9, List.head?_cons]
      show mw_P (upd kd n x) (upd (upd (upd pt n (-1)) p (nI n)) n (nI p)) (n + 1)
      obtain ⟨hp1, hp2, hp3⟩ := mw_head h9
      have hc : mw_cl (upd kd n x) p n := mw_cl_of hk (by rw [hst n (Nat.le_refl n)]; exact h9)
      intro i hi
      by_cases hin : i = n
      · subst hin
        refine ⟨fun _ => Or.inr ⟨p, r, by rw [hst i (Nat.le_refl i)]; exact h9, pk_us⟩, fun q => absurd q (mw_op_no hk), fun _ q => absurd hk q⟩
      · have h8 := h' i (by omega)
        rw [show upd (upd (upd pt n (-1)) p (nI n)) n (nI p) i = upd (upd pt n (-1)) p (nI n) i from pk_un hin]
        by_cases hip : i = p
        · subst hip
          refine ⟨fun q => absurd (by rw [show upd kd n x i = kd i from mw_upd i (by omega)]; exact hp2) (mw_op_no q), fun _ => Or.inl ⟨n, by omega, hc, pk_us⟩, fun q => absurd (by rw [show upd kd n x i = kd i from mw_upd i (by omega)]; exact hp2) q⟩
        · rw [show upd (upd pt n (-1)) p (nI n) i = upd pt n (-1) i from pk_un hip]
          refine ⟨h8.1, fun q => ?_, h8.2.2⟩
          rcases h8.2.1 q with ⟨j, hj, hc, hp⟩ | ⟨hp, hp9⟩
          · exact Or.inl ⟨j, by omega, hc, hp⟩
          · refine Or.inr ⟨?_, hp9⟩
            rw [mw_pop hk]
            rw [hst n (Nat.le_refl n), h9] at hp ⊢
            exact (List.mem_cons.mp hp).resolve_left hip
  · rw [if_neg hx]
    have hk : ¬ upd kd n x n = 101 := by rw [hkn]; exact hx
    intro i hi
    by_cases hin : i = n
    · subst hin
      refine ⟨fun q => absurd q hk, fun q => Or.inr ⟨?_, pk_us⟩, fun _ _ => pk_us⟩
      rw [mw_push q]
      exact List.mem_cons_self
    · have h8 := h' i (by omega)
      refine ⟨h8.1, fun q => ?_, h8.2.2⟩
      rcases h8.2.1 q with ⟨j, hj, hc, hp⟩ | ⟨hp, hp9⟩
      · exact Or.inl ⟨j, by omega, hc, hp⟩
      · refine Or.inr ⟨?_, hp9⟩
        by_cases hop : mi_op (upd kd n x n) = true
        · rw [mw_push hop]
          exact List.mem_cons_of_mem _ hp
        · rw [mw_same hop hk]
          exact hp
theorem mw_P_rem {ha : Nat → Nat → Int32} {n : Nat} (hn : n < 64) (h : mw_P (ha 5) (ha 9) (n + 1)) : mw_P (ha 5) (mp_rem ha n 9) n := by
  have h0 := h n (by omega)
  unfold mp_rem
  by_cases hk : ha 5 n = 101
  · rcases h0.1 hk with ⟨h1, h2⟩ | ⟨p, r, h1, h2⟩
    · rw [if_neg (by rw [h2]; exact fun q => absurd q (by rw [mi_iw]; simp only [Bool.and_eq_true, decide_eq_true_eq]; exact fun q => absurd q.1 (by decide)))]
      intro i hi
      have h8 := h i (by omega)
      refine ⟨h8.1, fun q => ?_, h8.2.2⟩
      rcases h8.2.1 q with ⟨j, hj, hc, hp⟩ | ⟨hp, hp9⟩
      · by_cases hjn : j = n
        · subst hjn
          rw [hc.2.2.1] at h1
          simp at h1
        · exact Or.inl ⟨j, by omega, hc, hp⟩
      · rw [mw_pop hk, h1] at hp
        simp at hp
    · obtain ⟨h3, h4, h5⟩ := mw_head h1
      rw [if_pos (by
        rw [h2]
        obtain ⟨n9, rfl⟩ : ∃ n9, n = n9 + 1 := ⟨n - 1, by omega⟩
        rw [nI_pred]
        exact mi_iw_at (by omega) (by omega))]
      rw [h2, nI_clamp (by omega)]
      show mw_P (ha 5) (upd (ha 9) p (-1)) n
      intro i hi
      have h8 := h i (by omega)
      by_cases hip : i = p
      · subst hip
        refine ⟨fun q => absurd h4 (mw_op_no q), fun _ => Or.inr ⟨by rw [h1]; exact List.mem_cons_self, pk_us⟩, fun q => absurd h4 q⟩
      · rw [show upd (ha 9) p (-1) i = ha 9 i from pk_un hip]
        refine ⟨h8.1, fun q => ?_, h8.2.2⟩
        rcases h8.2.1 q with ⟨j, hj, hc, hp⟩ | ⟨hp, hp9⟩
        · by_cases hjn : j = n
          · subst hjn
            rw [hc.2.2.1] at h1
            injection h1 with h9 h10
            exact absurd h9 hip
          · exact Or.inl ⟨j, by omega, hc, hp⟩
        · rw [mw_pop hk, h1, List.tail_cons] at hp
          exact Or.inr ⟨by rw [h1]; exact List.mem_cons_of_mem _ hp, hp9⟩
  · have h2 : ha 9 n = -1 := by
      by_cases hop : mi_op (ha 5 n) = true
      · rcases h0.2.1 hop with ⟨j, hj, hc, hp⟩ | ⟨-, hp⟩
        · exact absurd hc.1 (by omega)
        · exact hp
      · exact h0.2.2 hop hk
    rw [if_neg (by rw [h2]; exact fun q => absurd q (by rw [mi_iw]; simp only [Bool.and_eq_true, decide_eq_true_eq]; exact fun q => absurd q.1 (by decide)))]
    intro i hi
    have h8 := h i (by omega)
    refine ⟨h8.1, fun q => ?_, h8.2.2⟩
    rcases h8.2.1 q with ⟨j, hj, hc, hp⟩ | ⟨hp, hp9⟩
    · by_cases hjn : j = n
      · subst hjn
        exact absurd hc.2.1 hk
      · exact Or.inl ⟨j, by omega, hc, hp⟩
    · refine Or.inr ⟨?_, hp9⟩
      by_cases hop : mi_op (ha 5 n) = true
      · rw [mw_push hop] at hp
        exact (List.mem_cons.mp hp).resolve_left (by omega)
      · rw [mw_same hop hk] at hp
        exact hp
/-- the program is whole: parts close, and no more than three are open at once -/
def mw_ok (kd : Nat → Int32) (n : Nat) : Prop := ∀ m, m < n → (kd m = 101 → ¬ mw_st kd m = []) ∧ (mw_st kd (m + 1)).length ≤ 3
def mw_W (kd : Nat → Int32) (n : Nat) : Prop := mw_ok kd n ∧ mw_st kd n = []
theorem mw_ok_le {kd : Nat → Int32} {n m : Nat} (h : mw_ok kd n) (hm : m ≤ n) : mw_ok kd m := fun k hk => h k (by omega)
theorem mw_W_e {kd pt : Nat → Int32} {n N : Nat} (hw : mw_W kd n) (hP : mw_P kd pt n) (hN : N < n) (hk : kd N = 101) : ∃ p r, mw_st kd N = p :: r ∧ pt N = nI p ∧ p < N ∧ mi_op (kd p) = true ∧ r = mw_st kd p := by
  rcases (hP N hN).1 hk with ⟨h1, -⟩ | ⟨p, r, h1, h2⟩
  · exact absurd h1 ((hw.1 N hN).1 hk)
  · obtain ⟨h3, h4, h5⟩ := mw_head h1
    exact ⟨p, r, h1, h2, h3, h4, h5⟩
theorem mw_W_o {kd pt : Nat → Int32} {n N : Nat} (hw : mw_W kd n) (hP : mw_P kd pt n) (hN : N < n) (hk : mi_op (kd N) = true) : ∃ j, j < n ∧ mw_cl kd N j ∧ pt N = nI j := by
  rcases (hP N hN).2.1 hk with h1 | ⟨h1, -⟩
  · exact h1
  · rw [hw.2] at h1
    simp at h1
