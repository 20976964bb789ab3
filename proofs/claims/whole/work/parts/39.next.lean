/-! THE NEXT BLOCK. (rows by gen/sp16.py) -/
def mx_q4 (ha : Nat → Nat → Int32) (N : Nat) (a : Nat → Nat → Int32) (s : Nat → Int32) : Nat → Int32 := am_u1 (am_u1 (am_u1 (am_u1 s 16 (ha 5 N)) 17 (mc_val (a 2) (ha 6 N))) 18 (mc_val (a 2) (ha 7 N))) 19 (mc_val (a 2) (ha 8 N))
def mx_es (ha : Nat → Nat → Int32) (a : Nat → Nat → Int32) (q : Nat → Int32) : List ml_L := ml_legs (q 16) (q 17) (q 18) (q 19) (a 3 0) (a 3 1) (a 3 2) (mb_b ha a q 0) (mb_b ha a q 1) (mb_b ha a q 2)
def mx_tool (ha : Nat → Nat → Int32) (a : Nat → Nat → Int32) (q : Nat → Int32) : Int32 := mc_tool ha (a 1) (q 16) (q 17) (q 18) (q 10) (q 15)
noncomputable def mx_al (ha : Nat → Nat → Int32) (S T : Nat → Bool) (a : Nat → Nat → Int32) (q : Nat → Int32) (sh R X Y Z : Nat) : Int32 :=
  if mc_told ha (q 16) (q 17) (q 18) (q 19) = false then 110
  else if ¬ mx_tool ha a q = 45 then mx_tool ha a q
  else me_cell (q 16) (q 10) S T sh R X Y Z (mx_es ha a q)
def mx_S (ha : Nat → Nat → Int32) (a : Nat → Nat → Int32) (q : Nat → Int32) (sh R : Nat) (S : Nat → Bool) : Nat → Bool := if mc_cut (q 16) = true then ml_cut sh R (ml_all (mx_es ha a q)) S else S
def mx_u (ha : Nat → Nat → Int32) (a : Nat → Nat → Int32) (q : Nat → Int32) (sh R : Nat) (S : Nat → Bool) : Nat → Int32 := if mc_cut (q 16) = true then upd (a 1) (q 10).toNatClampNeg (a 1 (q 10).toNatClampNeg + nI (ml_cc sh R (ml_all (mx_es ha a q)) S)) else a 1
def mx_p (ha : Nat → Nat → Int32) (a : Nat → Nat → Int32) (q : Nat → Int32) : Nat → Int32 := mp_3 (a 3) 0 (ml_ex (q 16) (q 17) (q 18) (a 3 0) (mb_b ha a q 0)) (ml_ey (q 16) (q 18) (a 3 1) (mb_b ha a q 1)) (ml_ez (q 16) (q 19) (a 3 2) (mb_b ha a q 2))
def mx_a (ha : Nat → Nat → Int32) (a : Nat → Nat → Int32) (q : Nat → Int32) (sh R : Nat) (S : Nat → Bool) : Nat → Nat → Int32 := am_u2 (am_u2 a 1 (mx_u ha a q sh R S)) 3 (mx_p ha a q)
noncomputable def mx_lv (S : Nat → Bool) (sh R X Y Z : Nat) : Nat := me_lev (fun l => mx_d (mx_meet S sh R X Y l)) Z
noncomputable def mx_A (ha : Nat → Nat → Int32) (hz : Int32) (N : Nat) (a : Nat → Nat → Int32) (q : Nat → Int32) (sh R X Y Z : Nat) (S : Nat → Bool) : Nat → Nat → Int32 := me_ar ha hz N (mx_a ha a q sh R S) q (mx_lv (mx_S ha a q sh R S) sh R X Y Z)
def mx_Q (ha : Nat → Nat → Int32) (hz : Int32) (N : Nat) (a : Nat → Nat → Int32) (q : Nat → Int32) (sh R : Nat) (S : Nat → Bool) : Nat → Int32 := am_u1 (am_u1 (me_st ha (mx_a ha a q sh R S) q) 8 (me_nx ha hz N (mx_a ha a q sh R S) q)) 9 (q 9 + 1)
def mx_f (q : Nat → Int32) : UInt32 := FP.fdiv FP.fconst1 (FP.i2f (if q 16 = 103 then 100 else q 12))
def mx_t (ha : Nat → Nat → Int32) (a : Nat → Nat → Int32) (q : Nat → Int32) (t : UInt32) : UInt32 := ml_tm (mx_f q) (mx_es ha a q) t
theorem mi_iw50 {x : Int32} (h0 : 0 ≤ x) (h : mi_iw x (-50) 50 = true) : ∃ A, x = nI A ∧ A ≤ 50 := by
  have h1 : mi_iw x 0 50 = true := by
    simp only [mi_iw, Bool.and_eq_true, decide_eq_true_eq] at h ⊢
    exact ⟨h0, h.2⟩
  obtain ⟨A, hA, rfl⟩ := mi_iw_nI (N := 50) rfl (by decide) h1
  exact ⟨A, rfl, hA⟩
theorem mc_told_100 {ha : Nat → Nat → Int32} {k a b c : Int32} (hk : k = 100) (h : mc_told ha k a b c = true) (h1 : mi_iw a (-50) 50 = true) (h2 : mi_iw b (-50) 50 = true) : ∃ A B, a = nI A ∧ b = nI B ∧ A ≤ 50 ∧ 1 ≤ B ∧ B ≤ 50 := by
  rw [mc_told, if_pos hk] at h
  simp only [Bool.and_eq_true, decide_eq_true_eq] at h
  obtain ⟨A, rfl, hA⟩ := mi_iw50 h.1 h1
  obtain ⟨B, rfl, hB⟩ := mi_iw50 (Int32.le_trans (by decide) h.2) h2
  refine ⟨A, B, rfl, rfl, hA, ?_, hB⟩
  exact (nI_leI (a := 1) (by omega) (by omega)).mp h.2
theorem mc_told_112 {ha : Nat → Nat → Int32} {k a b c : Int32} (hk : k = 112) (h : mc_told ha k a b c = true) (h1 : mi_iw a (-50) 50 = true) (h2 : mi_iw b (-50) 50 = true) (h3 : mi_iw c (-50) 50 = true) : ∃ A B C, a = nI A ∧ b = nI B ∧ c = nI C ∧ A ≤ 50 ∧ B ≤ 50 ∧ C ≤ 50 := by
  subst hk
  rw [mc_told, if_neg (by decide), if_pos rfl] at h
  simp only [Bool.and_eq_true, decide_eq_true_eq] at h
  obtain ⟨A, rfl, hA⟩ := mi_iw50 h.1 h1
  obtain ⟨B, rfl, hB⟩ := mi_iw50 h.2.1 h2
  obtain ⟨C, rfl, hC⟩ := mi_iw50 h.2.2 h3
  exact ⟨A, B, C, rfl, rfl, rfl, hA, hB, hC⟩
theorem mc_told_116 {ha : Nat → Nat → Int32} {k a b c : Int32} (hk : k = 116) (h : mc_told ha k a b c = true) : ∃ A B, a = nI A ∧ b = nI B ∧ A < 3 ∧ B < 4 := by
  subst hk
  rw [mc_told, if_neg (by decide), if_neg (by decide), if_pos rfl, Bool.and_eq_true] at h
  obtain ⟨A, B, hA, hB, rfl, rfl⟩ := mi_slot_nI h.1
  exact ⟨A, B, rfl, rfl, hA, hB⟩
theorem mc_told_118 {ha : Nat → Nat → Int32} {k a b c : Int32} (hk : k = 118 ∨ k = 120) (h : mc_told ha k a b c = true) : mi_iw a 0 7 = true := by
  rcases hk with rfl | rfl
  · rw [mc_told, if_neg (by decide), if_neg (by decide), if_neg (by decide), if_neg (by decide), if_neg (by decide), if_neg (by decide), if_pos (by decide)] at h
    exact h
  · rw [mc_told, if_neg (by decide), if_neg (by decide), if_neg (by decide), if_neg (by decide), if_neg (by decide), if_neg (by decide), if_pos (by decide)] at h
    exact h
theorem mc_tool_slot {ha : Nat → Nat → Int32} {us : Nat → Int32} {k a b sl sp : Int32} (h : mc_tool ha us k a b sl sp = 45) (hk : mc_cut k = true ∨ k = 120) : ¬ sl = -1 := by
  intro h1
  have h6 : ¬ k = 116 := by
    rcases hk with hk | rfl
    · intro q
      subst q
      exact absurd hk (by decide)
    · decide
  rw [mc_tool, if_neg h6, if_neg (fun q => q.2.1 h1), if_pos (Or.inl ⟨hk, h1⟩)] at h
  exact absurd h (by decide)
theorem mc_tool_nar {ha : Nat → Nat → Int32} {us : Nat → Int32} {k a b sl sp : Int32} : narrow .char (.int (mc_tool ha us k a b sl sp)) = .int (mc_tool ha us k a b sl sp) := by
  rw [mc_tool]
  split
  · split
    · rfl
    · split <;> rfl
  · split
    · rfl
    · split <;> rfl
theorem me_cell_nar {k sl : Int32} {S T : Nat → Bool} {sh R X Y Z : Nat} {es : List ml_L} : narrow .char (.int (me_cell k sl S T sh R X Y Z es)) = .int (me_cell k sl S T sh R X Y Z es) := by
  rw [me_cell]
  split
  · rfl
  · split
    · rfl
    · split <;> rfl
theorem mx_es_len {k a b c x y z u v w : Int32} (h1 : k = 100 → ∃ A B, a = nI A ∧ b = nI B ∧ A ≤ 50 ∧ 1 ≤ B ∧ B ≤ 50) (h2 : k = 112 → ∃ A B C, a = nI A ∧ b = nI B ∧ c = nI C ∧ A ≤ 50 ∧ B ≤ 50 ∧ C ≤ 50) : (ml_legs k a b c x y z u v w).length ≤ 102 := by
  rw [ml_legs]
  split
  · exact Nat.succ_le_succ (Nat.zero_le _)
  · split
    · rename_i h
      obtain ⟨A, B, rfl, rfl, hA, -, -⟩ := h1 h
      rw [List.length_map, nI_clamp (by omega)]
      have := ml_deps_len (A := A) (B := (nI B).toNatClampNeg) A 1
      omega
    · split
      · rename_i h
        obtain ⟨A, B, C, rfl, rfl, rfl, hA, hB, hC⟩ := h2 h
        rw [List.length_append, ml_pk_len, nI_clamp (n := B) (by omega)]
        simp only [List.length_cons, List.length_nil]
        omega
      · exact Nat.zero_le _
theorem mp_cp_3 {e p : Nat → Int32} : mp_cp e p 3 = mp_3 p 0 (e 0) (e 1) (e 2) := rfl
theorem mx_upd_eq {u v : Nat → Int32} {c : Nat} {x : Int32} (h1 : v c = x) (h2 : ∀ j, j ≠ c → v j = u j) : v = upd u c x := by
  funext j
  by_cases h : j = c
  · rw [h, h1]; exact pk_us.symm
  · rw [h2 j h, show upd u c x j = u j from pk_un h]
theorem beq_no {j k : Nat} (h : j ≠ k) : Nat.beq j k = false := by
  cases h9 : Nat.beq j k
  · rfl
  · exact absurd (Nat.eq_of_beq_eq_true h9) h
theorem am_u1_no {f : Nat → Int32} {k j : Nat} {v : Int32} (h : j ≠ k) : am_u1 f k v j = f j := by
  rw [am_u1, beq_no h, cond_false]
theorem am_u1_yes {f : Nat → Int32} {k : Nat} {v : Int32} : am_u1 f k v k = v := by
  rw [am_u1, show Nat.beq k k = true from Nat.beq_refl k, cond_true]
theorem mq_s_20 {s : Nat → Int32} {L : Nat} : mq_s s L 20 = nI L := am_u1_yes
theorem me_st_9 {ha a : Nat → Nat → Int32} {s : Nat → Int32} : me_st ha a s 9 = s 9 := by
  simp only [me_st]
  split
  · rfl
  · split
    · rfl
    · split
      · rfl
      · split
        · rfl
        · split <;> rfl
theorem mx_q4_lo {ha : Nat → Nat → Int32} {N : Nat} {a : Nat → Nat → Int32} {s : Nat → Int32} {j : Nat} (hj : j ≤ 15) : mx_q4 ha N a s j = s j := by
  simp only [mx_q4, am_u1, beq_no (show j ≠ 16 by omega), beq_no (show j ≠ 17 by omega), beq_no (show j ≠ 18 by omega), beq_no (show j ≠ 19 by omega), cond_false]
set_option maxHeartbeats 2000000 in
theorem sp16_1_c {d : Nat} {K : am_K} {ha : Nat → Nat → Int32} {hz : Int32} {a1 : Nat → Nat → Int32} {s1 : Nat → Int32} {t1 : UInt32} {a2 : Nat → Nat → Int32} {s2 : Nat → Int32} {t2 : UInt32} {al : Int32} {ma : Nat → Nat → Int32} {ms : Nat → Int32} {mt : UInt32} {ol : Nat → Int64} {od : Nat → UInt64} {N M : Nat} (hN : s1 8 = nI N) (hM : hz = nI M) (hM9 : M ≤ 64) (hNM : N < M) (hk : mi_kind (ha 5 N) = true) {S T : Nat → Bool} {sh R X Y Z : Nat} (hS : ∀ j, j < 72 → a1 0 j = mr_w (fun q => S (16 * j + q))) (hT : ∀ j, j < 72 → ha 3 j = mr_w (fun q => T (16 * j + q))) (hsl : s1 10 = -1 ∨ ∃ c, s1 10 = nI c ∧ c < 12 ∧ ha 0 c = nI sh ∧ ha 1 c = nI R) (hsh : sh = 101 ∨ sh = 98 ∨ sh = 118) (hR : R < 4) (hX : a1 3 0 = nI X) (hY : a1 3 1 = nI Y) (hZ : a1 3 2 = nI Z) (hX9 : X < 16) (hY9 : Y < 12) (hZ9 : Z < 10) (hO : ∃ O, s1 13 = nI O ∧ O < 4) (hb1 : mi_iw ((mx_q4 ha N a1 s1) 17) (-50) 50 = true) (hb2 : mi_iw ((mx_q4 ha N a1 s1) 18) (-50) 50 = true) (hb3 : mi_iw ((mx_q4 ha N a1 s1) 19) (-50) 50 = true) (hin : (∀ e ∈ mx_es ha a1 (mx_q4 ha N a1 s1), ml_ins e = true) → ∀ e ∈ mx_es ha a1 (mx_q4 ha N a1 s1), ml_inn e) (htm : (∀ e ∈ mx_es ha a1 (mx_q4 ha N a1 s1), ml_inn e) → vf_n32 (mx_f (mx_q4 ha N a1 s1)) ∧ ml_tok (mx_f (mx_q4 ha N a1 s1)) (mx_es ha a1 (mx_q4 ha N a1 s1)) t1) (kf : ∀ (b : Nat → Nat → Int32) (p : Nat → Int32), (mx_al ha S T a1 (mx_q4 ha N a1 s1) sh R X Y Z) = 45 → (∀ j, j < 72 → b 0 j = mr_w (fun q => mx_S ha a1 (mx_q4 ha N a1 s1) sh R S (16 * j + q))) → (∀ i, 1 ≤ i → i ≤ 4 → b i = mx_A ha hz N a1 (mx_q4 ha N a1 s1) sh R X Y Z S i) → (∀ j, j ≤ 19 → p j = mx_Q ha hz N a1 (mx_q4 ha N a1 s1) sh R S j) → K (some (.int 45)) (am_W ha hz b p (mx_t ha a1 (mx_q4 ha N a1 s1) t1) a2 s2 t2 al ma ms mt ol od)) (P : am_P) (hm : am_mono P) (hP : am_cl am_G am_ro am_ft am_df (am_Ex am_G am_ro am_ft am_df (d + 5)) 16 K P) (e90 : mc_told ha ((mx_q4 ha N a1 s1) 16) ((mx_q4 ha N a1 s1) 17) ((mx_q4 ha N a1 s1) 18) ((mx_q4 ha N a1 s1) 19) = true) (e97 : mx_tool ha a1 (mx_q4 ha N a1 s1) = 45) (b7 : Nat → Nat → Int32) (p7 : Nat → Int32) (e9 : (mx_al ha S T a1 (mx_q4 ha N a1 s1) sh R X Y Z) = 45) (hS7 : ∀ j, j < 72 → b7 0 j = mr_w (fun q => mx_S ha a1 (mx_q4 ha N a1 s1) sh R S (16 * j + q))) (h71 : b7 1 = mx_u ha a1 (mx_q4 ha N a1 s1) sh R S) (h72 : b7 2 = a1 2) (h73 : b7 3 = mx_p ha a1 (mx_q4 ha N a1 s1)) (h74 : b7 4 = a1 4) (h7 : ∀ j, j ≤ 19 → p7 j = (mx_q4 ha N a1 s1) j) (hr7 : ¬ (mx_q4 ha N a1 s1) 10 = -1 → p7 21 = nI sh ∧ p7 22 = nI R) : P 132 [some (.ref 15), some (.ref 9), some (.int 45)] [] (am_W ha hz b7 p7 (mx_t ha a1 (mx_q4 ha N a1 s1) t1) a2 s2 t2 al ma ms mt ol od) 0 0 := by
  refine s_aload_n hP t16_132 rfl ?_
  refine s_invokevirtual (bc' := 0) (bs' := 0) hP t16_133 rfl rfl rfl rfl rfl ?_
  refine sp33_1 (a1 := b7) (s1 := p7) (N := N) (M := M) (S := mx_S ha a1 (mx_q4 ha N a1 s1) sh R S) (sh := sh) (R := R) (X := X) (Y := Y) (Z := Z) (by rw [h7 16 (by omega)]; exact hk) (by rw [h7 8 (by omega)]; exact hN) (by omega) hM hM9 hNM hS7 (fun q => hr7 (mc_tool_slot e97 (Or.inr ((h7 16 (by omega)).symm.trans q)))) hsh hR (fun q => ?_) hX9 hY9 hZ9 (fun q => ?_) (fun q => ?_) (fun x9 y9 z9 => ?_)
  · have q2 : (mx_q4 ha N a1 s1) 16 = 120 := (h7 16 (by omega)).symm.trans q
    rw [h73, mx_p, ml_ex, ml_ey, ml_ez, if_neg (by rw [q2]; decide), if_neg (by rw [q2]; decide), if_neg (by rw [q2]; decide), if_neg (by rw [q2]; decide), if_neg (by rw [q2]; decide)]
    exact ⟨mp_3_0.trans hX, mp_3_1.trans hY, mp_3_2.trans hZ⟩
  · rw [h7 17 (by omega), h7 18 (by omega)]
    exact mc_told_116 ((h7 16 (by omega)).symm.trans q) e90
  · rw [h7 17 (by omega)]
    refine mc_told_118 ?_ e90
    rw [h7 16 (by omega)] at q
    exact q
  refine s_aload_n hP t16_136 rfl ?_
  refine s_dup hP t16_137 rfl ?_
  refine s_getfield hP t16_138 rfl rfl ?_
  refine s_iconst (v := 1) hP t16_141 (by decide) ?_
  refine s_iadd hP t16_142 ?_
  refine s_putfield hP t16_143 rfl rfl rfl rfl ?_
  refine s_iload_n hP t16_146 rfl ?_
  refine s_ireturn hP t16_147 rfl rfl ?_
  have hb9 : ∀ i, 1 ≤ i → i ≤ 4 → b7 i = mx_a ha a1 (mx_q4 ha N a1 s1) sh R S i := by
    intro i h1 h2
    have : i = 1 ∨ i = 2 ∨ i = 3 ∨ i = 4 := by omega
    rcases this with rfl | rfl | rfl | rfl
    · exact h71
    · exact h72
    · exact h73
    · exact h74
  refine kf (me_ar ha hz N b7 p7 (mx_lv (mx_S ha a1 (mx_q4 ha N a1 s1) sh R S) sh R X Y Z)) (am_u1 (am_u1 (mc_mv (me_st ha b7 p7) x9 y9 z9) 8 (me_nx ha hz N b7 p7)) 9 ((am_u1 (mc_mv (me_st ha b7 p7) x9 y9 z9) 8 (me_nx ha hz N b7 p7)) 9 + 1)) e9 (by rw [me_ar_0]; exact hS7) (fun i h1 h2 => me_ar_eq hb9 h7 i h1 h2) (fun j hj => ?_)
  rw [mx_Q]
  have e2 := me_st_eq (ha := ha) (hb9 1 (by omega) (by omega)) h7
  have e3 := me_nx_eq (ha := ha) (hz := hz) (N := N) (hb9 4 (by omega) (by omega)) h7
  by_cases hj9 : j = 9
  · subst hj9
    show am_u1 _ 9 _ 9 = am_u1 _ 9 _ 9
    show (am_u1 (mc_mv (me_st ha b7 p7) x9 y9 z9) 8 (me_nx ha hz N b7 p7)) 9 + 1 = (mx_q4 ha N a1 s1) 9 + 1
    congr 1
    show me_st ha b7 p7 9 = (mx_q4 ha N a1 s1) 9
    rw [e2 9 (by omega)]
    exact me_st_9
  · by_cases hj8 : j = 8
    · subst hj8
      exact e3
    · have f : ∀ (g : Nat → Int32) (v w : Int32), am_u1 (am_u1 g 8 v) 9 w j = g j := by
        intro g v w
        simp only [am_u1, beq_no hj8, beq_no hj9, cond_false]
      refine (f _ _ _).trans (Eq.trans ?_ (f _ _ _).symm)
      rw [← e2 j hj]
      simp only [mc_mv, am_u1, beq_no (show j ≠ 25 by omega), beq_no (show j ≠ 24 by omega), beq_no (show j ≠ 23 by omega), cond_false]
set_option maxHeartbeats 2000000 in
theorem sp16_1_b {d : Nat} {K : am_K} {ha : Nat → Nat → Int32} {hz : Int32} {a1 : Nat → Nat → Int32} {s1 : Nat → Int32} {t1 : UInt32} {a2 : Nat → Nat → Int32} {s2 : Nat → Int32} {t2 : UInt32} {al : Int32} {ma : Nat → Nat → Int32} {ms : Nat → Int32} {mt : UInt32} {ol : Nat → Int64} {od : Nat → UInt64} {N M : Nat} (hN : s1 8 = nI N) (hM : hz = nI M) (hM9 : M ≤ 64) (hNM : N < M) (hk : mi_kind (ha 5 N) = true) {S T : Nat → Bool} {sh R X Y Z : Nat} (hS : ∀ j, j < 72 → a1 0 j = mr_w (fun q => S (16 * j + q))) (hT : ∀ j, j < 72 → ha 3 j = mr_w (fun q => T (16 * j + q))) (hsl : s1 10 = -1 ∨ ∃ c, s1 10 = nI c ∧ c < 12 ∧ ha 0 c = nI sh ∧ ha 1 c = nI R) (hsh : sh = 101 ∨ sh = 98 ∨ sh = 118) (hR : R < 4) (hX : a1 3 0 = nI X) (hY : a1 3 1 = nI Y) (hZ : a1 3 2 = nI Z) (hX9 : X < 16) (hY9 : Y < 12) (hZ9 : Z < 10) (hO : ∃ O, s1 13 = nI O ∧ O < 4) (hb1 : mi_iw ((mx_q4 ha N a1 s1) 17) (-50) 50 = true) (hb2 : mi_iw ((mx_q4 ha N a1 s1) 18) (-50) 50 = true) (hb3 : mi_iw ((mx_q4 ha N a1 s1) 19) (-50) 50 = true) (hin : (∀ e ∈ mx_es ha a1 (mx_q4 ha N a1 s1), ml_ins e = true) → ∀ e ∈ mx_es ha a1 (mx_q4 ha N a1 s1), ml_inn e) (htm : (∀ e ∈ mx_es ha a1 (mx_q4 ha N a1 s1), ml_inn e) → vf_n32 (mx_f (mx_q4 ha N a1 s1)) ∧ ml_tok (mx_f (mx_q4 ha N a1 s1)) (mx_es ha a1 (mx_q4 ha N a1 s1)) t1) (ka : ∀ (b : Nat → Nat → Int32) (p : Nat → Int32), ¬ (mx_al ha S T a1 (mx_q4 ha N a1 s1) sh R X Y Z) = 45 → (∀ i, i ≤ 4 → b i = a1 i) → (∀ j, j ≤ 15 → p j = s1 j) → p 16 = ha 5 N → K (some (.int (mx_al ha S T a1 (mx_q4 ha N a1 s1) sh R X Y Z))) (am_W ha hz b p t1 a2 s2 t2 al ma ms mt ol od)) (kf : ∀ (b : Nat → Nat → Int32) (p : Nat → Int32), (mx_al ha S T a1 (mx_q4 ha N a1 s1) sh R X Y Z) = 45 → (∀ j, j < 72 → b 0 j = mr_w (fun q => mx_S ha a1 (mx_q4 ha N a1 s1) sh R S (16 * j + q))) → (∀ i, 1 ≤ i → i ≤ 4 → b i = mx_A ha hz N a1 (mx_q4 ha N a1 s1) sh R X Y Z S i) → (∀ j, j ≤ 19 → p j = mx_Q ha hz N a1 (mx_q4 ha N a1 s1) sh R S j) → K (some (.int 45)) (am_W ha hz b p (mx_t ha a1 (mx_q4 ha N a1 s1) t1) a2 s2 t2 al ma ms mt ol od)) (P : am_P) (hm : am_mono P) (hP : am_cl am_G am_ro am_ft am_df (am_Ex am_G am_ro am_ft am_df (d + 5)) 16 K P) (e90 : mc_told ha ((mx_q4 ha N a1 s1) 16) ((mx_q4 ha N a1 s1) 17) ((mx_q4 ha N a1 s1) 18) ((mx_q4 ha N a1 s1) 19) = true) (e97 : mx_tool ha a1 (mx_q4 ha N a1 s1) = 45) (f g e : Nat → Int32) (L : Nat) (hH : ml_hold f g (mx_es ha a1 (mx_q4 ha N a1 s1))) (he0 : e 0 = (ml_ex ((mx_q4 ha N a1 s1) 16) ((mx_q4 ha N a1 s1) 17) ((mx_q4 ha N a1 s1) 18) (a1 3 0) (mb_b ha a1 (mx_q4 ha N a1 s1) 0))) (he1 : e 1 = (ml_ey ((mx_q4 ha N a1 s1) 16) ((mx_q4 ha N a1 s1) 18) (a1 3 1) (mb_b ha a1 (mx_q4 ha N a1 s1) 1))) (he2 : e 2 = (ml_ez ((mx_q4 ha N a1 s1) 16) ((mx_q4 ha N a1 s1) 19) (a1 3 2) (mb_b ha a1 (mx_q4 ha N a1 s1) 2))) (hLe : L = (mx_es ha a1 (mx_q4 ha N a1 s1)).length) (hlen : (mx_es ha a1 (mx_q4 ha N a1 s1)).length ≤ 102) (p5 : Nat → Int32) (h5 : ∀ j, j ≤ 19 → p5 j = (mx_q4 ha N a1 s1) j) (h5L : p5 20 = nI L) (h5r : ¬ (mx_q4 ha N a1 s1) 10 = -1 → p5 21 = nI sh ∧ p5 22 = nI R) : P 117 [some (.ref 15), some (.ref 9), some (.int (mx_tool ha a1 (mx_q4 ha N a1 s1)))] [] (am_W ha hz (mq_a a1 f g e) p5 t1 a2 s2 t2 al ma ms mt ol od) 0 0 := by
  refine s_aload_n hP t16_117 rfl ?_
  refine s_invokevirtual (bc' := 0) (bs' := 0) hP t16_118 rfl rfl rfl rfl rfl ?_
  refine sp20_1 (a1 := mq_a a1 f g e) (s1 := p5) (es := (mx_es ha a1 (mx_q4 ha N a1 s1))) (S := S) (T := T) (sh := sh) (R := R) (X := X) (Y := Y) (Z := Z) hH (by rw [h5L, hLe]) hlen hS hT (fun q => h5r (fun r => q (by rw [h5 10 (by omega)]; exact r))) hsh hR hX hY hZ hX9 hY9 hZ9 (fun q => ?_) hin (fun x9 y9 z9 => ?_)
  · rw [h5 10 (by omega)]
    exact mc_tool_slot e97 (Or.inr ((h5 16 (by omega)).symm.trans q))
  have ecell : me_cell (p5 16) (p5 10) S T sh R X Y Z (mx_es ha a1 (mx_q4 ha N a1 s1)) = me_cell ((mx_q4 ha N a1 s1) 16) ((mx_q4 ha N a1 s1) 10) S T sh R X Y Z (mx_es ha a1 (mx_q4 ha N a1 s1)) := by rw [h5 16 (by omega), h5 10 (by omega)]
  rw [ecell]
  have eal : (mx_al ha S T a1 (mx_q4 ha N a1 s1) sh R X Y Z) = me_cell ((mx_q4 ha N a1 s1) 16) ((mx_q4 ha N a1 s1) 10) S T sh R X Y Z (mx_es ha a1 (mx_q4 ha N a1 s1)) := by rw [mx_al, if_neg (by rw [e90]; decide), if_neg (fun q => q e97)]
  have h6 : ∀ j, j ≤ 19 → mc_mv p5 x9 y9 z9 j = (mx_q4 ha N a1 s1) j := fun j hj => by
    rw [← h5 j hj]
    simp only [mc_mv, am_u1, beq_no (show j ≠ 25 by omega), beq_no (show j ≠ 24 by omega), beq_no (show j ≠ 23 by omega), cond_false]
  refine s_istore_n_2 hP t16_121 (by exact rfl) ?_
  refine s_iload_n hP t16_122 rfl ?_
  refine s_bipush (v := 45) hP t16_123 (by decide) ?_
  refine s_icmp_ne hP t16_125 (fun q125 => ?_) (fun q125 => ?_)
  · refine s_iload_n hP t16_146 rfl ?_
    refine s_ireturn hP t16_147 rfl me_cell_nar ?_
    rw [← eal] at q125 ⊢
    refine ka _ _ q125 (fun i hi => ?_) (fun j hj => (h6 j (by omega)).trans (mx_q4_lo hj)) (h6 16 (by omega))
    simp only [mq_a, am_u2, beq_no (show i ≠ 7 by omega), beq_no (show i ≠ 6 by omega), beq_no (show i ≠ 5 by omega), cond_false]
  · have e9 : (mx_al ha S T a1 (mx_q4 ha N a1 s1) sh R X Y Z) = 45 := eal.trans q125
    have hmo : me_out (mx_es ha a1 (mx_q4 ha N a1 s1)) = false := by
      cases h : me_out (mx_es ha a1 (mx_q4 ha N a1 s1)) with
      | false => rfl
      | true => rw [me_cell, if_pos h] at q125; exact absurd q125 (by decide)
    have hinn := hin (me_out_no hmo)
    obtain ⟨hvf, htok⟩ := htm hinn
    have hfe : mx_f (mx_q4 ha N a1 s1) = FP.fdiv FP.fconst1 (FP.i2f (if (mc_mv p5 x9 y9 z9) 16 = 103 then 100 else (mc_mv p5 x9 y9 z9) 12)) := by rw [h6 16 (by omega), h6 12 (by omega)]; rfl
    have fin := @sp16_1_c d K ha hz a1 s1 t1 a2 s2 t2 al ma ms mt ol od N M hN hM hM9 hNM hk S T sh R X Y Z hS hT hsl hsh hR hX hY hZ hX9 hY9 hZ9 hO hb1 hb2 hb3 hin htm kf P hm hP e90 e97
    refine s_aload_n hP t16_128 rfl ?_
    refine s_invokevirtual (bc' := 0) (bs' := 0) hP t16_129 rfl rfl rfl rfl rfl ?_
    cases hcut : mc_cut ((mx_q4 ha N a1 s1) 16) with
    | false =>
      refine sp34_1n (a1 := mq_a a1 f g e) (s1 := mc_mv p5 x9 y9 z9) (es := (mx_es ha a1 (mx_q4 ha N a1 s1))) hH (by show p5 20 = _; rw [h5L, hLe]) hlen hinn (by rw [h6 16 (by omega)]; exact hcut) hfe hvf htok ?_
      rw [q125]
      refine fin _ _ e9 ?_ ?_ rfl ?_ rfl h6 h5r
      · rw [mx_S, if_neg (by rw [hcut]; decide)]
        exact hS
      · rw [mx_u, if_neg (by rw [hcut]; decide)]
        rfl
      · show mp_cp e (a1 3) 3 = _
        rw [mp_cp_3, he0, he1, he2]
        rfl
    | true =>
      obtain ⟨c, hc, hc9, hc0, hc1⟩ := hsl.resolve_left (mc_tool_slot e97 (Or.inl hcut))
      obtain ⟨h21, h22⟩ := h5r (mc_tool_slot e97 (Or.inl hcut))
      refine sp34_1c (a1 := mq_a a1 f g e) (s1 := mc_mv p5 x9 y9 z9) (es := (mx_es ha a1 (mx_q4 ha N a1 s1))) (c := c) (sh := sh) (R := R) (S := S) hH (by show p5 20 = _; rw [h5L, hLe]) hlen (by rw [h6 10 (by omega)]; exact hc) hc9 h21 h22 hsh hR hS hinn (by rw [h6 16 (by omega)]; exact hcut) hfe hvf htok (fun g7 u7 x7 y7 z7 hg7 hu7 hu8 => ?_)
      rw [q125, mc_mv_mv]
      refine fin _ _ e9 ?_ ?_ rfl ?_ rfl ?_ h5r
      · rw [mx_S, if_pos hcut]
        exact hg7
      · rw [mx_u, if_pos hcut, show ((mx_q4 ha N a1 s1) 10).toNatClampNeg = c by rw [show (mx_q4 ha N a1 s1) 10 = nI c from hc]; exact nI_clamp (by omega)]
        exact mx_upd_eq hu7 hu8
      · show mp_cp e (a1 3) 3 = _
        rw [mp_cp_3, he0, he1, he2]
        rfl
      · intro j hj
        rw [← h5 j hj]
        simp only [mc_mv, am_u1, beq_no (show j ≠ 25 by omega), beq_no (show j ≠ 24 by omega), beq_no (show j ≠ 23 by omega), cond_false]
set_option maxHeartbeats 2000000 in
theorem sp16_1_t22 {d : Nat} {K : am_K} {ha : Nat → Nat → Int32} {hz : Int32} {a1 : Nat → Nat → Int32} {s1 : Nat → Int32} {t1 : UInt32} {a2 : Nat → Nat → Int32} {s2 : Nat → Int32} {t2 : UInt32} {al : Int32} {ma : Nat → Nat → Int32} {ms : Nat → Int32} {mt : UInt32} {ol : Nat → Int64} {od : Nat → UInt64} {N : Nat} {p : Nat → Int32} (hp8 : p 8 = nI N) (hN9 : N < 64) (P : am_P) (hm : am_mono P) (hP : am_cl am_G am_ro am_ft am_df (am_Ex am_G am_ro am_ft am_df (d + 5)) 16 K P) (k : P 35 [some (.ref 15), some (.ref 9), none] [] (am_W ha hz a1 (am_u1 p 16 (ha 5 N)) t1 a2 s2 t2 al ma ms mt ol od) 0 0) : P 22 [some (.ref 15), some (.ref 9), none] [] (am_W ha hz a1 p t1 a2 s2 t2 al ma ms mt ol od) 0 0 := by
  refine s_aload_n hP t16_22 rfl ?_
  refine s_aload_n hP t16_23 rfl ?_
  refine s_getfield hP t16_24 rfl rfl ?_
  refine s_aload_n hP t16_27 rfl ?_
  refine s_getfield hP t16_28 rfl rfl ?_
  refine s_iaload hP t16_31 rfl (by rw [hp8]; exact vp_in_nI (by omega) (by decide)) ?_
  rw [show (p 8).toNatClampNeg = N by rw [hp8]; exact nI_clamp (by omega)]
  refine s_putfield hP t16_32 rfl rfl rfl rfl ?_
  exact k
set_option maxHeartbeats 2000000 in
theorem sp16_1_t35 {d : Nat} {K : am_K} {ha : Nat → Nat → Int32} {hz : Int32} {a1 : Nat → Nat → Int32} {s1 : Nat → Int32} {t1 : UInt32} {a2 : Nat → Nat → Int32} {s2 : Nat → Int32} {t2 : UInt32} {al : Int32} {ma : Nat → Nat → Int32} {ms : Nat → Int32} {mt : UInt32} {ol : Nat → Int64} {od : Nat → UInt64} {N : Nat} {p : Nat → Int32} (hp8 : p 8 = nI N) (hN9 : N < 64) (P : am_P) (hm : am_mono P) (hP : am_cl am_G am_ro am_ft am_df (am_Ex am_G am_ro am_ft am_df (d + 5)) 16 K P) (k : P 52 [some (.ref 15), some (.ref 9), none] [] (am_W ha hz a1 (am_u1 p 17 (mc_val (a1 2) (ha 6 N))) t1 a2 s2 t2 al ma ms mt ol od) 0 0) : P 35 [some (.ref 15), some (.ref 9), none] [] (am_W ha hz a1 p t1 a2 s2 t2 al ma ms mt ol od) 0 0 := by
  refine s_aload_n hP t16_35 rfl ?_
  refine s_aload_n hP t16_36 rfl ?_
  refine s_aload_n hP t16_37 rfl ?_
  refine s_getfield hP t16_38 rfl rfl ?_
  refine s_aload_n hP t16_41 rfl ?_
  refine s_getfield hP t16_42 rfl rfl ?_
  refine s_iaload hP t16_45 rfl (by rw [hp8]; exact vp_in_nI (by omega) (by decide)) ?_
  rw [show (p 8).toNatClampNeg = N by rw [hp8]; exact nI_clamp (by omega)]
  refine s_invokevirtual (bc' := 0) (bs' := 0) hP t16_46 rfl rfl rfl rfl rfl ?_
  refine sp17_1 ?_
  refine s_putfield hP t16_49 rfl rfl rfl rfl ?_
  exact k
set_option maxHeartbeats 2000000 in
theorem sp16_1_t52 {d : Nat} {K : am_K} {ha : Nat → Nat → Int32} {hz : Int32} {a1 : Nat → Nat → Int32} {s1 : Nat → Int32} {t1 : UInt32} {a2 : Nat → Nat → Int32} {s2 : Nat → Int32} {t2 : UInt32} {al : Int32} {ma : Nat → Nat → Int32} {ms : Nat → Int32} {mt : UInt32} {ol : Nat → Int64} {od : Nat → UInt64} {N : Nat} {p : Nat → Int32} (hp8 : p 8 = nI N) (hN9 : N < 64) (P : am_P) (hm : am_mono P) (hP : am_cl am_G am_ro am_ft am_df (am_Ex am_G am_ro am_ft am_df (d + 5)) 16 K P) (k : P 69 [some (.ref 15), some (.ref 9), none] [] (am_W ha hz a1 (am_u1 p 18 (mc_val (a1 2) (ha 7 N))) t1 a2 s2 t2 al ma ms mt ol od) 0 0) : P 52 [some (.ref 15), some (.ref 9), none] [] (am_W ha hz a1 p t1 a2 s2 t2 al ma ms mt ol od) 0 0 := by
  refine s_aload_n hP t16_52 rfl ?_
  refine s_aload_n hP t16_53 rfl ?_
  refine s_aload_n hP t16_54 rfl ?_
  refine s_getfield hP t16_55 rfl rfl ?_
  refine s_aload_n hP t16_58 rfl ?_
  refine s_getfield hP t16_59 rfl rfl ?_
  refine s_iaload hP t16_62 rfl (by rw [hp8]; exact vp_in_nI (by omega) (by decide)) ?_
  rw [show (p 8).toNatClampNeg = N by rw [hp8]; exact nI_clamp (by omega)]
  refine s_invokevirtual (bc' := 0) (bs' := 0) hP t16_63 rfl rfl rfl rfl rfl ?_
  refine sp17_1 ?_
  refine s_putfield hP t16_66 rfl rfl rfl rfl ?_
  exact k
set_option maxHeartbeats 2000000 in
theorem sp16_1_t69 {d : Nat} {K : am_K} {ha : Nat → Nat → Int32} {hz : Int32} {a1 : Nat → Nat → Int32} {s1 : Nat → Int32} {t1 : UInt32} {a2 : Nat → Nat → Int32} {s2 : Nat → Int32} {t2 : UInt32} {al : Int32} {ma : Nat → Nat → Int32} {ms : Nat → Int32} {mt : UInt32} {ol : Nat → Int64} {od : Nat → UInt64} {N : Nat} {p : Nat → Int32} (hp8 : p 8 = nI N) (hN9 : N < 64) (P : am_P) (hm : am_mono P) (hP : am_cl am_G am_ro am_ft am_df (am_Ex am_G am_ro am_ft am_df (d + 5)) 16 K P) (k : P 86 [some (.ref 15), some (.ref 9), none] [] (am_W ha hz a1 (am_u1 p 19 (mc_val (a1 2) (ha 8 N))) t1 a2 s2 t2 al ma ms mt ol od) 0 0) : P 69 [some (.ref 15), some (.ref 9), none] [] (am_W ha hz a1 p t1 a2 s2 t2 al ma ms mt ol od) 0 0 := by
  refine s_aload_n hP t16_69 rfl ?_
  refine s_aload_n hP t16_70 rfl ?_
  refine s_aload_n hP t16_71 rfl ?_
  refine s_getfield hP t16_72 rfl rfl ?_
  refine s_aload_n hP t16_75 rfl ?_
  refine s_getfield hP t16_76 rfl rfl ?_
  refine s_iaload hP t16_79 rfl (by rw [hp8]; exact vp_in_nI (by omega) (by decide)) ?_
  rw [show (p 8).toNatClampNeg = N by rw [hp8]; exact nI_clamp (by omega)]
  refine s_invokevirtual (bc' := 0) (bs' := 0) hP t16_80 rfl rfl rfl rfl rfl ?_
  refine sp17_1 ?_
  refine s_putfield hP t16_83 rfl rfl rfl rfl ?_
  exact k
set_option maxHeartbeats 1000000 in
theorem sp16_1_h52 {d : Nat} {K : am_K} {ha : Nat → Nat → Int32} {hz : Int32} {a1 : Nat → Nat → Int32} {s1 : Nat → Int32} {t1 : UInt32} {a2 : Nat → Nat → Int32} {s2 : Nat → Int32} {t2 : UInt32} {al : Int32} {ma : Nat → Nat → Int32} {ms : Nat → Int32} {mt : UInt32} {ol : Nat → Int64} {od : Nat → UInt64} {N : Nat} {p : Nat → Int32} (hp8 : p 8 = nI N) (hN9 : N < 64) (P : am_P) (hm : am_mono P) (hP : am_cl am_G am_ro am_ft am_df (am_Ex am_G am_ro am_ft am_df (d + 5)) 16 K P) (k : P 86 [some (.ref 15), some (.ref 9), none] [] (am_W ha hz a1 (am_u1 (am_u1 p 18 (mc_val (a1 2) (ha 7 N))) 19 (mc_val (a1 2) (ha 8 N))) t1 a2 s2 t2 al ma ms mt ol od) 0 0) : P 52 [some (.ref 15), some (.ref 9), none] [] (am_W ha hz a1 p t1 a2 s2 t2 al ma ms mt ol od) 0 0 := by
  refine sp16_1_t52 (s1 := s1) (N := N) (p := p) hp8 hN9 P hm hP ?_
  generalize hv : mc_val (a1 2) (ha 7 N) = v at k ⊢
  have hq8 : am_u1 p 18 v 8 = nI N := hp8
  generalize am_u1 p 18 v = q at hq8 k ⊢
  exact sp16_1_t69 (s1 := s1) (N := N) (p := q) hq8 hN9 P hm hP k
set_option maxHeartbeats 1000000 in
theorem sp16_1_h35 {d : Nat} {K : am_K} {ha : Nat → Nat → Int32} {hz : Int32} {a1 : Nat → Nat → Int32} {s1 : Nat → Int32} {t1 : UInt32} {a2 : Nat → Nat → Int32} {s2 : Nat → Int32} {t2 : UInt32} {al : Int32} {ma : Nat → Nat → Int32} {ms : Nat → Int32} {mt : UInt32} {ol : Nat → Int64} {od : Nat → UInt64} {N : Nat} {p : Nat → Int32} (hp8 : p 8 = nI N) (hN9 : N < 64) (P : am_P) (hm : am_mono P) (hP : am_cl am_G am_ro am_ft am_df (am_Ex am_G am_ro am_ft am_df (d + 5)) 16 K P) (k : P 86 [some (.ref 15), some (.ref 9), none] [] (am_W ha hz a1 (am_u1 (am_u1 (am_u1 p 17 (mc_val (a1 2) (ha 6 N))) 18 (mc_val (a1 2) (ha 7 N))) 19 (mc_val (a1 2) (ha 8 N))) t1 a2 s2 t2 al ma ms mt ol od) 0 0) : P 35 [some (.ref 15), some (.ref 9), none] [] (am_W ha hz a1 p t1 a2 s2 t2 al ma ms mt ol od) 0 0 := by
  refine sp16_1_t35 (s1 := s1) (N := N) (p := p) hp8 hN9 P hm hP ?_
  generalize hv : mc_val (a1 2) (ha 6 N) = v at k ⊢
  have hq8 : am_u1 p 17 v 8 = nI N := hp8
  generalize am_u1 p 17 v = q at hq8 k ⊢
  exact sp16_1_h52 (s1 := s1) (N := N) (p := q) hq8 hN9 P hm hP k
set_option maxHeartbeats 1000000 in
theorem sp16_1_h22 {d : Nat} {K : am_K} {ha : Nat → Nat → Int32} {hz : Int32} {a1 : Nat → Nat → Int32} {s1 : Nat → Int32} {t1 : UInt32} {a2 : Nat → Nat → Int32} {s2 : Nat → Int32} {t2 : UInt32} {al : Int32} {ma : Nat → Nat → Int32} {ms : Nat → Int32} {mt : UInt32} {ol : Nat → Int64} {od : Nat → UInt64} {N : Nat} {p : Nat → Int32} (hp8 : p 8 = nI N) (hN9 : N < 64) (P : am_P) (hm : am_mono P) (hP : am_cl am_G am_ro am_ft am_df (am_Ex am_G am_ro am_ft am_df (d + 5)) 16 K P) (k : P 86 [some (.ref 15), some (.ref 9), none] [] (am_W ha hz a1 (mx_q4 ha N a1 p) t1 a2 s2 t2 al ma ms mt ol od) 0 0) : P 22 [some (.ref 15), some (.ref 9), none] [] (am_W ha hz a1 p t1 a2 s2 t2 al ma ms mt ol od) 0 0 := by
  refine sp16_1_t22 (s1 := s1) (N := N) (p := p) hp8 hN9 P hm hP ?_
  have k9 : P 86 [some (.ref 15), some (.ref 9), none] [] (am_W ha hz a1 (am_u1 (am_u1 (am_u1 (am_u1 p 16 (ha 5 N)) 17 (mc_val (a1 2) (ha 6 N))) 18 (mc_val (a1 2) (ha 7 N))) 19 (mc_val (a1 2) (ha 8 N))) t1 a2 s2 t2 al ma ms mt ol od) 0 0 := k
  have hq8 : am_u1 p 16 (ha 5 N) 8 = nI N := hp8
  generalize am_u1 p 16 (ha 5 N) = q at hq8 k9 ⊢
  exact sp16_1_h35 (s1 := s1) (N := N) (p := q) hq8 hN9 P hm hP k9
set_option maxHeartbeats 2000000 in
theorem sp16_1_m {d : Nat} {K : am_K} {ha : Nat → Nat → Int32} {hz : Int32} {a1 : Nat → Nat → Int32} {s1 : Nat → Int32} {t1 : UInt32} {a2 : Nat → Nat → Int32} {s2 : Nat → Int32} {t2 : UInt32} {al : Int32} {ma : Nat → Nat → Int32} {ms : Nat → Int32} {mt : UInt32} {ol : Nat → Int64} {od : Nat → UInt64} {N M : Nat} (hN : s1 8 = nI N) (hM : hz = nI M) (hM9 : M ≤ 64) (hNM : N < M) (hk : mi_kind (ha 5 N) = true) {S T : Nat → Bool} {sh R X Y Z : Nat} (hS : ∀ j, j < 72 → a1 0 j = mr_w (fun q => S (16 * j + q))) (hT : ∀ j, j < 72 → ha 3 j = mr_w (fun q => T (16 * j + q))) (hsl : s1 10 = -1 ∨ ∃ c, s1 10 = nI c ∧ c < 12 ∧ ha 0 c = nI sh ∧ ha 1 c = nI R) (hsh : sh = 101 ∨ sh = 98 ∨ sh = 118) (hR : R < 4) (hX : a1 3 0 = nI X) (hY : a1 3 1 = nI Y) (hZ : a1 3 2 = nI Z) (hX9 : X < 16) (hY9 : Y < 12) (hZ9 : Z < 10) (hO : ∃ O, s1 13 = nI O ∧ O < 4) (hb1 : mi_iw ((mx_q4 ha N a1 s1) 17) (-50) 50 = true) (hb2 : mi_iw ((mx_q4 ha N a1 s1) 18) (-50) 50 = true) (hb3 : mi_iw ((mx_q4 ha N a1 s1) 19) (-50) 50 = true) (hin : (∀ e ∈ mx_es ha a1 (mx_q4 ha N a1 s1), ml_ins e = true) → ∀ e ∈ mx_es ha a1 (mx_q4 ha N a1 s1), ml_inn e) (htm : (∀ e ∈ mx_es ha a1 (mx_q4 ha N a1 s1), ml_inn e) → vf_n32 (mx_f (mx_q4 ha N a1 s1)) ∧ ml_tok (mx_f (mx_q4 ha N a1 s1)) (mx_es ha a1 (mx_q4 ha N a1 s1)) t1) (ka : ∀ (b : Nat → Nat → Int32) (p : Nat → Int32), ¬ (mx_al ha S T a1 (mx_q4 ha N a1 s1) sh R X Y Z) = 45 → (∀ i, i ≤ 4 → b i = a1 i) → (∀ j, j ≤ 15 → p j = s1 j) → p 16 = ha 5 N → K (some (.int (mx_al ha S T a1 (mx_q4 ha N a1 s1) sh R X Y Z))) (am_W ha hz b p t1 a2 s2 t2 al ma ms mt ol od)) (kf : ∀ (b : Nat → Nat → Int32) (p : Nat → Int32), (mx_al ha S T a1 (mx_q4 ha N a1 s1) sh R X Y Z) = 45 → (∀ j, j < 72 → b 0 j = mr_w (fun q => mx_S ha a1 (mx_q4 ha N a1 s1) sh R S (16 * j + q))) → (∀ i, 1 ≤ i → i ≤ 4 → b i = mx_A ha hz N a1 (mx_q4 ha N a1 s1) sh R X Y Z S i) → (∀ j, j ≤ 19 → p j = mx_Q ha hz N a1 (mx_q4 ha N a1 s1) sh R S j) → K (some (.int 45)) (am_W ha hz b p (mx_t ha a1 (mx_q4 ha N a1 s1) t1) a2 s2 t2 al ma ms mt ol od)) (P : am_P) (hm : am_mono P) (hP : am_cl am_G am_ro am_ft am_df (am_Ex am_G am_ro am_ft am_df (d + 5)) 16 K P) (e90 : mc_told ha ((mx_q4 ha N a1 s1) 16) ((mx_q4 ha N a1 s1) 17) ((mx_q4 ha N a1 s1) 18) ((mx_q4 ha N a1 s1) 19) = true) (e97 : mx_tool ha a1 (mx_q4 ha N a1 s1) = 45)  : P 109 [some (.ref 15), some (.ref 9), some (.int (mx_tool ha a1 (mx_q4 ha N a1 s1)))] [] (am_W ha hz a1 (mx_q4 ha N a1 s1) t1 a2 s2 t2 al ma ms mt ol od) 0 0 := by
  refine s_aload_n hP t16_109 rfl ?_
  refine s_invokevirtual (bc' := 0) (bs' := 0) hP t16_110 rfl rfl rfl rfl rfl ?_
  refine sp24_1 (s1 := (mx_q4 ha N a1 s1)) (fun _ => hO) (fun q => mc_told_100 q e90 hb1 hb2) (fun q => mc_told_112 q e90 hb1 hb2 hb3) (fun f g e L hH he0 he1 he2 hLe => ?_)
  have hLe : L = (mx_es ha a1 (mx_q4 ha N a1 s1)).length := hLe
  have hlen : (mx_es ha a1 (mx_q4 ha N a1 s1)).length ≤ 102 := mx_es_len (fun q => mc_told_100 q e90 hb1 hb2) (fun q => mc_told_112 q e90 hb1 hb2 hb3)
  have rest := @sp16_1_b d K ha hz a1 s1 t1 a2 s2 t2 al ma ms mt ol od N M hN hM hM9 hNM hk S T sh R X Y Z hS hT hsl hsh hR hX hY hZ hX9 hY9 hZ9 hO hb1 hb2 hb3 hin htm ka kf P hm hP e90 e97 f g e L hH he0 he1 he2 hLe hlen
  refine s_aload_n hP t16_113 rfl ?_
  refine s_invokevirtual (bc' := 0) (bs' := 0) hP t16_114 rfl rfl rfl rfl rfl ?_
  have hsl2 : ¬ (mx_q4 ha N a1 s1) 10 = -1 → ha 0 (s1 10).toNatClampNeg = nI sh ∧ ha 1 (s1 10).toNatClampNeg = nI R := fun r => by
    obtain ⟨c, hc, hc9, hc0, hc1⟩ := hsl.resolve_left r
    rw [hc, nI_clamp (by omega)]
    exact ⟨hc0, hc1⟩
  have e10 : mq_s (mx_q4 ha N a1 s1) L 10 = s1 10 := (am_u1_no (by decide)).trans (mx_q4_lo (by omega))
  refine sp30_1 (a1 := mq_a a1 f g e) (s1 := mq_s (mx_q4 ha N a1 s1) L) (fun q => ?_) (fun q => ?_)
  · refine rest _ (fun j hj => ?_) mq_s_20 (fun r => ?_)
    · exact am_u1_no (by omega)
    · rw [e10] at q
      obtain ⟨c, hc, hc9, hc0, hc1⟩ := hsl.resolve_left r
      rw [hc, mi_iw11 (by omega)] at q
      cases q
  · refine rest _ (fun j hj => ?_) ((am_u1_no (by decide)).trans ((am_u1_no (by decide)).trans mq_s_20)) (fun r => ?_)
    · exact (am_u1_no (by omega)).trans ((am_u1_no (by omega)).trans (am_u1_no (by omega)))
    · rw [e10]
      exact ⟨((am_u1_no (by decide)).trans am_u1_yes).trans (hsl2 r).1, am_u1_yes.trans (hsl2 r).2⟩
set_option maxHeartbeats 2000000 in
theorem sp16_1_a {d : Nat} {K : am_K} {ha : Nat → Nat → Int32} {hz : Int32} {a1 : Nat → Nat → Int32} {s1 : Nat → Int32} {t1 : UInt32} {a2 : Nat → Nat → Int32} {s2 : Nat → Int32} {t2 : UInt32} {al : Int32} {ma : Nat → Nat → Int32} {ms : Nat → Int32} {mt : UInt32} {ol : Nat → Int64} {od : Nat → UInt64} {N M : Nat} (hN : s1 8 = nI N) (hM : hz = nI M) (hM9 : M ≤ 64) (hNM : N < M) (hk : mi_kind (ha 5 N) = true) {S T : Nat → Bool} {sh R X Y Z : Nat} (hS : ∀ j, j < 72 → a1 0 j = mr_w (fun q => S (16 * j + q))) (hT : ∀ j, j < 72 → ha 3 j = mr_w (fun q => T (16 * j + q))) (hsl : s1 10 = -1 ∨ ∃ c, s1 10 = nI c ∧ c < 12 ∧ ha 0 c = nI sh ∧ ha 1 c = nI R) (hsh : sh = 101 ∨ sh = 98 ∨ sh = 118) (hR : R < 4) (hX : a1 3 0 = nI X) (hY : a1 3 1 = nI Y) (hZ : a1 3 2 = nI Z) (hX9 : X < 16) (hY9 : Y < 12) (hZ9 : Z < 10) (hO : ∃ O, s1 13 = nI O ∧ O < 4) (hb1 : mi_iw ((mx_q4 ha N a1 s1) 17) (-50) 50 = true) (hb2 : mi_iw ((mx_q4 ha N a1 s1) 18) (-50) 50 = true) (hb3 : mi_iw ((mx_q4 ha N a1 s1) 19) (-50) 50 = true) (hin : (∀ e ∈ mx_es ha a1 (mx_q4 ha N a1 s1), ml_ins e = true) → ∀ e ∈ mx_es ha a1 (mx_q4 ha N a1 s1), ml_inn e) (htm : (∀ e ∈ mx_es ha a1 (mx_q4 ha N a1 s1), ml_inn e) → vf_n32 (mx_f (mx_q4 ha N a1 s1)) ∧ ml_tok (mx_f (mx_q4 ha N a1 s1)) (mx_es ha a1 (mx_q4 ha N a1 s1)) t1) (ka : ∀ (b : Nat → Nat → Int32) (p : Nat → Int32), ¬ (mx_al ha S T a1 (mx_q4 ha N a1 s1) sh R X Y Z) = 45 → (∀ i, i ≤ 4 → b i = a1 i) → (∀ j, j ≤ 15 → p j = s1 j) → p 16 = ha 5 N → K (some (.int (mx_al ha S T a1 (mx_q4 ha N a1 s1) sh R X Y Z))) (am_W ha hz b p t1 a2 s2 t2 al ma ms mt ol od)) (kf : ∀ (b : Nat → Nat → Int32) (p : Nat → Int32), (mx_al ha S T a1 (mx_q4 ha N a1 s1) sh R X Y Z) = 45 → (∀ j, j < 72 → b 0 j = mr_w (fun q => mx_S ha a1 (mx_q4 ha N a1 s1) sh R S (16 * j + q))) → (∀ i, 1 ≤ i → i ≤ 4 → b i = mx_A ha hz N a1 (mx_q4 ha N a1 s1) sh R X Y Z S i) → (∀ j, j ≤ 19 → p j = mx_Q ha hz N a1 (mx_q4 ha N a1 s1) sh R S j) → K (some (.int 45)) (am_W ha hz b p (mx_t ha a1 (mx_q4 ha N a1 s1) t1) a2 s2 t2 al ma ms mt ol od)) (P : am_P) (hm : am_mono P) (hP : am_cl am_G am_ro am_ft am_df (am_Ex am_G am_ro am_ft am_df (d + 5)) 16 K P) : P 86 [some (.ref 15), some (.ref 9), none] [] (am_W ha hz a1 (mx_q4 ha N a1 s1) t1 a2 s2 t2 al ma ms mt ol od) 0 0 := by
  refine s_aload_n hP t16_86 rfl ?_
  refine s_invokevirtual (bc' := 0) (bs' := 0) hP t16_87 rfl rfl rfl rfl rfl ?_
  refine sp18_1 (s1 := (mx_q4 ha N a1 s1)) hk ?_
  refine s_zeq hP t16_90 (fun q90 => ?_) (fun q90 => ?_)
  · have q90 : mc_told ha ((mx_q4 ha N a1 s1) 16) ((mx_q4 ha N a1 s1) 17) ((mx_q4 ha N a1 s1) 18) ((mx_q4 ha N a1 s1) 19) = false := q90
    refine s_bipush (v := 110) hP t16_100 (by decide) ?_
    refine s_istore_n_2 hP t16_102 (by exact rfl) ?_
    refine s_iload_n hP t16_103 rfl ?_
    refine s_bipush (v := 45) hP t16_104 (by decide) ?_
    refine s_icmp_ne hP t16_106 (fun q106 => ?_) (fun q106 => ?_)
    · refine s_iload_n hP t16_122 rfl ?_
      refine s_bipush (v := 45) hP t16_123 (by decide) ?_
      refine s_icmp_ne hP t16_125 (fun q125 => ?_) (fun q125 => ?_)
      · refine s_iload_n hP t16_146 rfl ?_
        refine s_ireturn hP t16_147 rfl rfl ?_
        have eal : (mx_al ha S T a1 (mx_q4 ha N a1 s1) sh R X Y Z) = 110 := by rw [mx_al, if_pos q90]
        have k9 := ka a1 (mx_q4 ha N a1 s1) (by rw [eal]; exact q125) (fun i _ => rfl) (fun j hj => mx_q4_lo hj) rfl
        rw [eal] at k9
        exact k9
      · exact absurd q125 q106
    · exact absurd q106 (by decide)
  · have e90 : mc_told ha ((mx_q4 ha N a1 s1) 16) ((mx_q4 ha N a1 s1) 17) ((mx_q4 ha N a1 s1) 18) ((mx_q4 ha N a1 s1) 19) = true := q90
    refine s_aload_n hP t16_93 rfl ?_
    refine s_invokevirtual (bc' := 0) (bs' := 0) hP t16_94 rfl rfl rfl rfl rfl ?_
    refine sp19_1 (s1 := (mx_q4 ha N a1 s1)) (fun q => mc_told_116 q e90) ?_
    refine s_goto hP t16_97 ?_
    refine s_istore_n_2 hP t16_102 (by exact rfl) ?_
    refine s_iload_n hP t16_103 rfl ?_
    refine s_bipush (v := 45) hP t16_104 (by decide) ?_
    refine s_icmp_ne hP t16_106 (fun q106 => ?_) (fun q106 => ?_)
    · refine s_iload_n hP t16_122 rfl ?_
      refine s_bipush (v := 45) hP t16_123 (by decide) ?_
      refine s_icmp_ne hP t16_125 (fun q125 => ?_) (fun q125 => ?_)
      · refine s_iload_n hP t16_146 rfl ?_
        refine s_ireturn hP t16_147 rfl mc_tool_nar ?_
        have eal : (mx_al ha S T a1 (mx_q4 ha N a1 s1) sh R X Y Z) = mx_tool ha a1 (mx_q4 ha N a1 s1) := by rw [mx_al, if_neg (by rw [q90]; decide), if_pos (show ¬ mx_tool ha a1 (mx_q4 ha N a1 s1) = 45 from q106)]
        have k9 := ka a1 (mx_q4 ha N a1 s1) (by rw [eal]; exact q125) (fun i _ => rfl) (fun j hj => mx_q4_lo hj) rfl
        rw [eal] at k9
        exact k9
      · exact absurd q125 q106
    · exact sp16_1_m hN hM hM9 hNM hk hS hT hsl hsh hR hX hY hZ hX9 hY9 hZ9 hO hb1 hb2 hb3 hin htm ka kf P hm hP e90 q106
set_option maxHeartbeats 4000000 in
theorem sp16_1 {d : Nat} {K : am_K} {ha : Nat → Nat → Int32} {hz : Int32} {a1 : Nat → Nat → Int32} {s1 : Nat → Int32} {t1 : UInt32} {a2 : Nat → Nat → Int32} {s2 : Nat → Int32} {t2 : UInt32} {al : Int32} {ma : Nat → Nat → Int32} {ms : Nat → Int32} {mt : UInt32} {ol : Nat → Int64} {od : Nat → UInt64} {N M : Nat} (hN : s1 8 = nI N) (hM : hz = nI M) (hM9 : M ≤ 64) (hNM : N < M) (hk : mi_kind (ha 5 N) = true) {S T : Nat → Bool} {sh R X Y Z : Nat} (hS : ∀ j, j < 72 → a1 0 j = mr_w (fun q => S (16 * j + q))) (hT : ∀ j, j < 72 → ha 3 j = mr_w (fun q => T (16 * j + q))) (hsl : s1 10 = -1 ∨ ∃ c, s1 10 = nI c ∧ c < 12 ∧ ha 0 c = nI sh ∧ ha 1 c = nI R) (hsh : sh = 101 ∨ sh = 98 ∨ sh = 118) (hR : R < 4) (hX : a1 3 0 = nI X) (hY : a1 3 1 = nI Y) (hZ : a1 3 2 = nI Z) (hX9 : X < 16) (hY9 : Y < 12) (hZ9 : Z < 10) (hO : ∃ O, s1 13 = nI O ∧ O < 4) (hb1 : mi_iw ((mx_q4 ha N a1 s1) 17) (-50) 50 = true) (hb2 : mi_iw ((mx_q4 ha N a1 s1) 18) (-50) 50 = true) (hb3 : mi_iw ((mx_q4 ha N a1 s1) 19) (-50) 50 = true) (hin : (∀ e ∈ mx_es ha a1 (mx_q4 ha N a1 s1), ml_ins e = true) → ∀ e ∈ mx_es ha a1 (mx_q4 ha N a1 s1), ml_inn e) (htm : (∀ e ∈ mx_es ha a1 (mx_q4 ha N a1 s1), ml_inn e) → vf_n32 (mx_f (mx_q4 ha N a1 s1)) ∧ ml_tok (mx_f (mx_q4 ha N a1 s1)) (mx_es ha a1 (mx_q4 ha N a1 s1)) t1) (ka : ∀ (b : Nat → Nat → Int32) (p : Nat → Int32), ¬ (mx_al ha S T a1 (mx_q4 ha N a1 s1) sh R X Y Z) = 45 → (∀ i, i ≤ 4 → b i = a1 i) → (∀ j, j ≤ 15 → p j = s1 j) → p 16 = ha 5 N → K (some (.int (mx_al ha S T a1 (mx_q4 ha N a1 s1) sh R X Y Z))) (am_W ha hz b p t1 a2 s2 t2 al ma ms mt ol od)) (kf : ∀ (b : Nat → Nat → Int32) (p : Nat → Int32), (mx_al ha S T a1 (mx_q4 ha N a1 s1) sh R X Y Z) = 45 → (∀ j, j < 72 → b 0 j = mr_w (fun q => mx_S ha a1 (mx_q4 ha N a1 s1) sh R S (16 * j + q))) → (∀ i, 1 ≤ i → i ≤ 4 → b i = mx_A ha hz N a1 (mx_q4 ha N a1 s1) sh R X Y Z S i) → (∀ j, j ≤ 19 → p j = mx_Q ha hz N a1 (mx_q4 ha N a1 s1) sh R S j) → K (some (.int 45)) (am_W ha hz b p (mx_t ha a1 (mx_q4 ha N a1 s1) t1) a2 s2 t2 al ma ms mt ol od)) : am_Run (d + 6) 16 [.ref 15] (am_W ha hz a1 s1 t1 a2 s2 t2 al ma ms mt ol od) K := by
  refine ⟨rfl, fun P hm hP => ?_⟩
  show P 0 [some (.ref 15), none, none] [] _ 0 0
  refine s_aload_n hP t16_0 rfl ?_
  refine s_getfield hP t16_1 rfl rfl ?_
  refine s_getfield hP t16_4 rfl rfl ?_
  refine s_astore_n_1 hP t16_7 (by exact rfl) ?_
  refine s_aload_n hP t16_8 rfl ?_
  refine s_aload_n hP t16_9 rfl ?_
  refine s_getfield hP t16_10 rfl rfl ?_
  refine s_invokevirtual (bc' := 0) (bs' := 0) hP t16_13 rfl rfl rfl rfl rfl ?_
  refine sp54 (sz := nI M) (by rw [← hM]; rfl) ?_
  rw [show mi_iw (s1 8) 0 (nI M - 1) = true by
    rw [hN]
    obtain ⟨M9, rfl⟩ : ∃ M9, M = M9 + 1 := ⟨M - 1, by omega⟩
    rw [nI_pred]
    exact mi_iw_at (by omega) (by omega)]
  refine s_zne hP t16_16 (fun q16 => ?_) (fun q16 => ?_)
  · exact sp16_1_h22 (s1 := s1) (N := N) (p := s1) hN (by omega) P hm hP (sp16_1_a hN hM hM9 hNM hk hS hT hsl hsh hR hX hY hZ hX9 hY9 hZ9 hO hb1 hb2 hb3 hin htm ka kf P hm hP)
  · cases q16
set_option maxHeartbeats 2000000 in
theorem sp16_2_c {d : Nat} {K : am_K} {ha : Nat → Nat → Int32} {hz : Int32} {a1 : Nat → Nat → Int32} {s1 : Nat → Int32} {t1 : UInt32} {a2 : Nat → Nat → Int32} {s2 : Nat → Int32} {t2 : UInt32} {al : Int32} {ma : Nat → Nat → Int32} {ms : Nat → Int32} {mt : UInt32} {ol : Nat → Int64} {od : Nat → UInt64} {N M : Nat} (hN : s2 8 = nI N) (hM : hz = nI M) (hM9 : M ≤ 64) (hNM : N < M) (hk : mi_kind (ha 5 N) = true) {S T : Nat → Bool} {sh R X Y Z : Nat} (hS : ∀ j, j < 72 → a2 0 j = mr_w (fun q => S (16 * j + q))) (hT : ∀ j, j < 72 → ha 3 j = mr_w (fun q => T (16 * j + q))) (hsl : s2 10 = -1 ∨ ∃ c, s2 10 = nI c ∧ c < 12 ∧ ha 0 c = nI sh ∧ ha 1 c = nI R) (hsh : sh = 101 ∨ sh = 98 ∨ sh = 118) (hR : R < 4) (hX : a2 3 0 = nI X) (hY : a2 3 1 = nI Y) (hZ : a2 3 2 = nI Z) (hX9 : X < 16) (hY9 : Y < 12) (hZ9 : Z < 10) (hO : ∃ O, s2 13 = nI O ∧ O < 4) (hb1 : mi_iw ((mx_q4 ha N a2 s2) 17) (-50) 50 = true) (hb2 : mi_iw ((mx_q4 ha N a2 s2) 18) (-50) 50 = true) (hb3 : mi_iw ((mx_q4 ha N a2 s2) 19) (-50) 50 = true) (hin : (∀ e ∈ mx_es ha a2 (mx_q4 ha N a2 s2), ml_ins e = true) → ∀ e ∈ mx_es ha a2 (mx_q4 ha N a2 s2), ml_inn e) (htm : (∀ e ∈ mx_es ha a2 (mx_q4 ha N a2 s2), ml_inn e) → vf_n32 (mx_f (mx_q4 ha N a2 s2)) ∧ ml_tok (mx_f (mx_q4 ha N a2 s2)) (mx_es ha a2 (mx_q4 ha N a2 s2)) t2) (kf : ∀ (b : Nat → Nat → Int32) (p : Nat → Int32), (mx_al ha S T a2 (mx_q4 ha N a2 s2) sh R X Y Z) = 45 → (∀ j, j < 72 → b 0 j = mr_w (fun q => mx_S ha a2 (mx_q4 ha N a2 s2) sh R S (16 * j + q))) → (∀ i, 1 ≤ i → i ≤ 4 → b i = mx_A ha hz N a2 (mx_q4 ha N a2 s2) sh R X Y Z S i) → (∀ j, j ≤ 19 → p j = mx_Q ha hz N a2 (mx_q4 ha N a2 s2) sh R S j) → K (some (.int 45)) (am_W ha hz a1 s1 t1 b p (mx_t ha a2 (mx_q4 ha N a2 s2) t2) al ma ms mt ol od)) (P : am_P) (hm : am_mono P) (hP : am_cl am_G am_ro am_ft am_df (am_Ex am_G am_ro am_ft am_df (d + 5)) 16 K P) (e90 : mc_told ha ((mx_q4 ha N a2 s2) 16) ((mx_q4 ha N a2 s2) 17) ((mx_q4 ha N a2 s2) 18) ((mx_q4 ha N a2 s2) 19) = true) (e97 : mx_tool ha a2 (mx_q4 ha N a2 s2) = 45) (b7 : Nat → Nat → Int32) (p7 : Nat → Int32) (e9 : (mx_al ha S T a2 (mx_q4 ha N a2 s2) sh R X Y Z) = 45) (hS7 : ∀ j, j < 72 → b7 0 j = mr_w (fun q => mx_S ha a2 (mx_q4 ha N a2 s2) sh R S (16 * j + q))) (h71 : b7 1 = mx_u ha a2 (mx_q4 ha N a2 s2) sh R S) (h72 : b7 2 = a2 2) (h73 : b7 3 = mx_p ha a2 (mx_q4 ha N a2 s2)) (h74 : b7 4 = a2 4) (h7 : ∀ j, j ≤ 19 → p7 j = (mx_q4 ha N a2 s2) j) (hr7 : ¬ (mx_q4 ha N a2 s2) 10 = -1 → p7 21 = nI sh ∧ p7 22 = nI R) : P 132 [some (.ref 27), some (.ref 9), some (.int 45)] [] (am_W ha hz a1 s1 t1 b7 p7 (mx_t ha a2 (mx_q4 ha N a2 s2) t2) al ma ms mt ol od) 0 0 := by
  refine s_aload_n hP t16_132 rfl ?_
  refine s_invokevirtual (bc' := 0) (bs' := 0) hP t16_133 rfl rfl rfl rfl rfl ?_
  refine sp33_2 (a2 := b7) (s2 := p7) (N := N) (M := M) (S := mx_S ha a2 (mx_q4 ha N a2 s2) sh R S) (sh := sh) (R := R) (X := X) (Y := Y) (Z := Z) (by rw [h7 16 (by omega)]; exact hk) (by rw [h7 8 (by omega)]; exact hN) (by omega) hM hM9 hNM hS7 (fun q => hr7 (mc_tool_slot e97 (Or.inr ((h7 16 (by omega)).symm.trans q)))) hsh hR (fun q => ?_) hX9 hY9 hZ9 (fun q => ?_) (fun q => ?_) (fun x9 y9 z9 => ?_)
  · have q2 : (mx_q4 ha N a2 s2) 16 = 120 := (h7 16 (by omega)).symm.trans q
    rw [h73, mx_p, ml_ex, ml_ey, ml_ez, if_neg (by rw [q2]; decide), if_neg (by rw [q2]; decide), if_neg (by rw [q2]; decide), if_neg (by rw [q2]; decide), if_neg (by rw [q2]; decide)]
    exact ⟨mp_3_0.trans hX, mp_3_1.trans hY, mp_3_2.trans hZ⟩
  · rw [h7 17 (by omega), h7 18 (by omega)]
    exact mc_told_116 ((h7 16 (by omega)).symm.trans q) e90
  · rw [h7 17 (by omega)]
    refine mc_told_118 ?_ e90
    rw [h7 16 (by omega)] at q
    exact q
  refine s_aload_n hP t16_136 rfl ?_
  refine s_dup hP t16_137 rfl ?_
  refine s_getfield hP t16_138 rfl rfl ?_
  refine s_iconst (v := 1) hP t16_141 (by decide) ?_
  refine s_iadd hP t16_142 ?_
  refine s_putfield hP t16_143 rfl rfl rfl rfl ?_
  refine s_iload_n hP t16_146 rfl ?_
  refine s_ireturn hP t16_147 rfl rfl ?_
  have hb9 : ∀ i, 1 ≤ i → i ≤ 4 → b7 i = mx_a ha a2 (mx_q4 ha N a2 s2) sh R S i := by
    intro i h1 h2
    have : i = 1 ∨ i = 2 ∨ i = 3 ∨ i = 4 := by omega
    rcases this with rfl | rfl | rfl | rfl
    · exact h71
    · exact h72
    · exact h73
    · exact h74
  refine kf (me_ar ha hz N b7 p7 (mx_lv (mx_S ha a2 (mx_q4 ha N a2 s2) sh R S) sh R X Y Z)) (am_u1 (am_u1 (mc_mv (me_st ha b7 p7) x9 y9 z9) 8 (me_nx ha hz N b7 p7)) 9 ((am_u1 (mc_mv (me_st ha b7 p7) x9 y9 z9) 8 (me_nx ha hz N b7 p7)) 9 + 1)) e9 (by rw [me_ar_0]; exact hS7) (fun i h1 h2 => me_ar_eq hb9 h7 i h1 h2) (fun j hj => ?_)
  rw [mx_Q]
  have e2 := me_st_eq (ha := ha) (hb9 1 (by omega) (by omega)) h7
  have e3 := me_nx_eq (ha := ha) (hz := hz) (N := N) (hb9 4 (by omega) (by omega)) h7
  by_cases hj9 : j = 9
  · subst hj9
    show am_u1 _ 9 _ 9 = am_u1 _ 9 _ 9
    show (am_u1 (mc_mv (me_st ha b7 p7) x9 y9 z9) 8 (me_nx ha hz N b7 p7)) 9 + 1 = (mx_q4 ha N a2 s2) 9 + 1
    congr 1
    show me_st ha b7 p7 9 = (mx_q4 ha N a2 s2) 9
    rw [e2 9 (by omega)]
    exact me_st_9
  · by_cases hj8 : j = 8
    · subst hj8
      exact e3
    · have f : ∀ (g : Nat → Int32) (v w : Int32), am_u1 (am_u1 g 8 v) 9 w j = g j := by
        intro g v w
        simp only [am_u1, beq_no hj8, beq_no hj9, cond_false]
      refine (f _ _ _).trans (Eq.trans ?_ (f _ _ _).symm)
      rw [← e2 j hj]
      simp only [mc_mv, am_u1, beq_no (show j ≠ 25 by omega), beq_no (show j ≠ 24 by omega), beq_no (show j ≠ 23 by omega), cond_false]
set_option maxHeartbeats 2000000 in
theorem sp16_2_b {d : Nat} {K : am_K} {ha : Nat → Nat → Int32} {hz : Int32} {a1 : Nat → Nat → Int32} {s1 : Nat → Int32} {t1 : UInt32} {a2 : Nat → Nat → Int32} {s2 : Nat → Int32} {t2 : UInt32} {al : Int32} {ma : Nat → Nat → Int32} {ms : Nat → Int32} {mt : UInt32} {ol : Nat → Int64} {od : Nat → UInt64} {N M : Nat} (hN : s2 8 = nI N) (hM : hz = nI M) (hM9 : M ≤ 64) (hNM : N < M) (hk : mi_kind (ha 5 N) = true) {S T : Nat → Bool} {sh R X Y Z : Nat} (hS : ∀ j, j < 72 → a2 0 j = mr_w (fun q => S (16 * j + q))) (hT : ∀ j, j < 72 → ha 3 j = mr_w (fun q => T (16 * j + q))) (hsl : s2 10 = -1 ∨ ∃ c, s2 10 = nI c ∧ c < 12 ∧ ha 0 c = nI sh ∧ ha 1 c = nI R) (hsh : sh = 101 ∨ sh = 98 ∨ sh = 118) (hR : R < 4) (hX : a2 3 0 = nI X) (hY : a2 3 1 = nI Y) (hZ : a2 3 2 = nI Z) (hX9 : X < 16) (hY9 : Y < 12) (hZ9 : Z < 10) (hO : ∃ O, s2 13 = nI O ∧ O < 4) (hb1 : mi_iw ((mx_q4 ha N a2 s2) 17) (-50) 50 = true) (hb2 : mi_iw ((mx_q4 ha N a2 s2) 18) (-50) 50 = true) (hb3 : mi_iw ((mx_q4 ha N a2 s2) 19) (-50) 50 = true) (hin : (∀ e ∈ mx_es ha a2 (mx_q4 ha N a2 s2), ml_ins e = true) → ∀ e ∈ mx_es ha a2 (mx_q4 ha N a2 s2), ml_inn e) (htm : (∀ e ∈ mx_es ha a2 (mx_q4 ha N a2 s2), ml_inn e) → vf_n32 (mx_f (mx_q4 ha N a2 s2)) ∧ ml_tok (mx_f (mx_q4 ha N a2 s2)) (mx_es ha a2 (mx_q4 ha N a2 s2)) t2) (ka : ∀ (b : Nat → Nat → Int32) (p : Nat → Int32), ¬ (mx_al ha S T a2 (mx_q4 ha N a2 s2) sh R X Y Z) = 45 → (∀ i, i ≤ 4 → b i = a2 i) → (∀ j, j ≤ 15 → p j = s2 j) → p 16 = ha 5 N → K (some (.int (mx_al ha S T a2 (mx_q4 ha N a2 s2) sh R X Y Z))) (am_W ha hz a1 s1 t1 b p t2 al ma ms mt ol od)) (kf : ∀ (b : Nat → Nat → Int32) (p : Nat → Int32), (mx_al ha S T a2 (mx_q4 ha N a2 s2) sh R X Y Z) = 45 → (∀ j, j < 72 → b 0 j = mr_w (fun q => mx_S ha a2 (mx_q4 ha N a2 s2) sh R S (16 * j + q))) → (∀ i, 1 ≤ i → i ≤ 4 → b i = mx_A ha hz N a2 (mx_q4 ha N a2 s2) sh R X Y Z S i) → (∀ j, j ≤ 19 → p j = mx_Q ha hz N a2 (mx_q4 ha N a2 s2) sh R S j) → K (some (.int 45)) (am_W ha hz a1 s1 t1 b p (mx_t ha a2 (mx_q4 ha N a2 s2) t2) al ma ms mt ol od)) (P : am_P) (hm : am_mono P) (hP : am_cl am_G am_ro am_ft am_df (am_Ex am_G am_ro am_ft am_df (d + 5)) 16 K P) (e90 : mc_told ha ((mx_q4 ha N a2 s2) 16) ((mx_q4 ha N a2 s2) 17) ((mx_q4 ha N a2 s2) 18) ((mx_q4 ha N a2 s2) 19) = true) (e97 : mx_tool ha a2 (mx_q4 ha N a2 s2) = 45) (f g e : Nat → Int32) (L : Nat) (hH : ml_hold f g (mx_es ha a2 (mx_q4 ha N a2 s2))) (he0 : e 0 = (ml_ex ((mx_q4 ha N a2 s2) 16) ((mx_q4 ha N a2 s2) 17) ((mx_q4 ha N a2 s2) 18) (a2 3 0) (mb_b ha a2 (mx_q4 ha N a2 s2) 0))) (he1 : e 1 = (ml_ey ((mx_q4 ha N a2 s2) 16) ((mx_q4 ha N a2 s2) 18) (a2 3 1) (mb_b ha a2 (mx_q4 ha N a2 s2) 1))) (he2 : e 2 = (ml_ez ((mx_q4 ha N a2 s2) 16) ((mx_q4 ha N a2 s2) 19) (a2 3 2) (mb_b ha a2 (mx_q4 ha N a2 s2) 2))) (hLe : L = (mx_es ha a2 (mx_q4 ha N a2 s2)).length) (hlen : (mx_es ha a2 (mx_q4 ha N a2 s2)).length ≤ 102) (p5 : Nat → Int32) (h5 : ∀ j, j ≤ 19 → p5 j = (mx_q4 ha N a2 s2) j) (h5L : p5 20 = nI L) (h5r : ¬ (mx_q4 ha N a2 s2) 10 = -1 → p5 21 = nI sh ∧ p5 22 = nI R) : P 117 [some (.ref 27), some (.ref 9), some (.int (mx_tool ha a2 (mx_q4 ha N a2 s2)))] [] (am_W ha hz a1 s1 t1 (mq_a a2 f g e) p5 t2 al ma ms mt ol od) 0 0 := by
  refine s_aload_n hP t16_117 rfl ?_
  refine s_invokevirtual (bc' := 0) (bs' := 0) hP t16_118 rfl rfl rfl rfl rfl ?_
  refine sp20_2 (a2 := mq_a a2 f g e) (s2 := p5) (es := (mx_es ha a2 (mx_q4 ha N a2 s2))) (S := S) (T := T) (sh := sh) (R := R) (X := X) (Y := Y) (Z := Z) hH (by rw [h5L, hLe]) hlen hS hT (fun q => h5r (fun r => q (by rw [h5 10 (by omega)]; exact r))) hsh hR hX hY hZ hX9 hY9 hZ9 (fun q => ?_) hin (fun x9 y9 z9 => ?_)
  · rw [h5 10 (by omega)]
    exact mc_tool_slot e97 (Or.inr ((h5 16 (by omega)).symm.trans q))
  have ecell : me_cell (p5 16) (p5 10) S T sh R X Y Z (mx_es ha a2 (mx_q4 ha N a2 s2)) = me_cell ((mx_q4 ha N a2 s2) 16) ((mx_q4 ha N a2 s2) 10) S T sh R X Y Z (mx_es ha a2 (mx_q4 ha N a2 s2)) := by rw [h5 16 (by omega), h5 10 (by omega)]
  rw [ecell]
  have eal : (mx_al ha S T a2 (mx_q4 ha N a2 s2) sh R X Y Z) = me_cell ((mx_q4 ha N a2 s2) 16) ((mx_q4 ha N a2 s2) 10) S T sh R X Y Z (mx_es ha a2 (mx_q4 ha N a2 s2)) := by rw [mx_al, if_neg (by rw [e90]; decide), if_neg (fun q => q e97)]
  have h6 : ∀ j, j ≤ 19 → mc_mv p5 x9 y9 z9 j = (mx_q4 ha N a2 s2) j := fun j hj => by
    rw [← h5 j hj]
    simp only [mc_mv, am_u1, beq_no (show j ≠ 25 by omega), beq_no (show j ≠ 24 by omega), beq_no (show j ≠ 23 by omega), cond_false]
  refine s_istore_n_2 hP t16_121 (by exact rfl) ?_
  refine s_iload_n hP t16_122 rfl ?_
  refine s_bipush (v := 45) hP t16_123 (by decide) ?_
  refine s_icmp_ne hP t16_125 (fun q125 => ?_) (fun q125 => ?_)
  · refine s_iload_n hP t16_146 rfl ?_
    refine s_ireturn hP t16_147 rfl me_cell_nar ?_
    rw [← eal] at q125 ⊢
    refine ka _ _ q125 (fun i hi => ?_) (fun j hj => (h6 j (by omega)).trans (mx_q4_lo hj)) (h6 16 (by omega))
    simp only [mq_a, am_u2, beq_no (show i ≠ 7 by omega), beq_no (show i ≠ 6 by omega), beq_no (show i ≠ 5 by omega), cond_false]
  · have e9 : (mx_al ha S T a2 (mx_q4 ha N a2 s2) sh R X Y Z) = 45 := eal.trans q125
    have hmo : me_out (mx_es ha a2 (mx_q4 ha N a2 s2)) = false := by
      cases h : me_out (mx_es ha a2 (mx_q4 ha N a2 s2)) with
      | false => rfl
      | true => rw [me_cell, if_pos h] at q125; exact absurd q125 (by decide)
    have hinn := hin (me_out_no hmo)
    obtain ⟨hvf, htok⟩ := htm hinn
    have hfe : mx_f (mx_q4 ha N a2 s2) = FP.fdiv FP.fconst1 (FP.i2f (if (mc_mv p5 x9 y9 z9) 16 = 103 then 100 else (mc_mv p5 x9 y9 z9) 12)) := by rw [h6 16 (by omega), h6 12 (by omega)]; rfl
    have fin := @sp16_2_c d K ha hz a1 s1 t1 a2 s2 t2 al ma ms mt ol od N M hN hM hM9 hNM hk S T sh R X Y Z hS hT hsl hsh hR hX hY hZ hX9 hY9 hZ9 hO hb1 hb2 hb3 hin htm kf P hm hP e90 e97
    refine s_aload_n hP t16_128 rfl ?_
    refine s_invokevirtual (bc' := 0) (bs' := 0) hP t16_129 rfl rfl rfl rfl rfl ?_
    cases hcut : mc_cut ((mx_q4 ha N a2 s2) 16) with
    | false =>
      refine sp34_2n (a2 := mq_a a2 f g e) (s2 := mc_mv p5 x9 y9 z9) (es := (mx_es ha a2 (mx_q4 ha N a2 s2))) hH (by show p5 20 = _; rw [h5L, hLe]) hlen hinn (by rw [h6 16 (by omega)]; exact hcut) hfe hvf htok ?_
      rw [q125]
      refine fin _ _ e9 ?_ ?_ rfl ?_ rfl h6 h5r
      · rw [mx_S, if_neg (by rw [hcut]; decide)]
        exact hS
      · rw [mx_u, if_neg (by rw [hcut]; decide)]
        rfl
      · show mp_cp e (a2 3) 3 = _
        rw [mp_cp_3, he0, he1, he2]
        rfl
    | true =>
      obtain ⟨c, hc, hc9, hc0, hc1⟩ := hsl.resolve_left (mc_tool_slot e97 (Or.inl hcut))
      obtain ⟨h21, h22⟩ := h5r (mc_tool_slot e97 (Or.inl hcut))
      refine sp34_2c (a2 := mq_a a2 f g e) (s2 := mc_mv p5 x9 y9 z9) (es := (mx_es ha a2 (mx_q4 ha N a2 s2))) (c := c) (sh := sh) (R := R) (S := S) hH (by show p5 20 = _; rw [h5L, hLe]) hlen (by rw [h6 10 (by omega)]; exact hc) hc9 h21 h22 hsh hR hS hinn (by rw [h6 16 (by omega)]; exact hcut) hfe hvf htok (fun g7 u7 x7 y7 z7 hg7 hu7 hu8 => ?_)
      rw [q125, mc_mv_mv]
      refine fin _ _ e9 ?_ ?_ rfl ?_ rfl ?_ h5r
      · rw [mx_S, if_pos hcut]
        exact hg7
      · rw [mx_u, if_pos hcut, show ((mx_q4 ha N a2 s2) 10).toNatClampNeg = c by rw [show (mx_q4 ha N a2 s2) 10 = nI c from hc]; exact nI_clamp (by omega)]
        exact mx_upd_eq hu7 hu8
      · show mp_cp e (a2 3) 3 = _
        rw [mp_cp_3, he0, he1, he2]
        rfl
      · intro j hj
        rw [← h5 j hj]
        simp only [mc_mv, am_u1, beq_no (show j ≠ 25 by omega), beq_no (show j ≠ 24 by omega), beq_no (show j ≠ 23 by omega), cond_false]
set_option maxHeartbeats 2000000 in
theorem sp16_2_t22 {d : Nat} {K : am_K} {ha : Nat → Nat → Int32} {hz : Int32} {a1 : Nat → Nat → Int32} {s1 : Nat → Int32} {t1 : UInt32} {a2 : Nat → Nat → Int32} {s2 : Nat → Int32} {t2 : UInt32} {al : Int32} {ma : Nat → Nat → Int32} {ms : Nat → Int32} {mt : UInt32} {ol : Nat → Int64} {od : Nat → UInt64} {N : Nat} {p : Nat → Int32} (hp8 : p 8 = nI N) (hN9 : N < 64) (P : am_P) (hm : am_mono P) (hP : am_cl am_G am_ro am_ft am_df (am_Ex am_G am_ro am_ft am_df (d + 5)) 16 K P) (k : P 35 [some (.ref 27), some (.ref 9), none] [] (am_W ha hz a1 s1 t1 a2 (am_u1 p 16 (ha 5 N)) t2 al ma ms mt ol od) 0 0) : P 22 [some (.ref 27), some (.ref 9), none] [] (am_W ha hz a1 s1 t1 a2 p t2 al ma ms mt ol od) 0 0 := by
  refine s_aload_n hP t16_22 rfl ?_
  refine s_aload_n hP t16_23 rfl ?_
  refine s_getfield hP t16_24 rfl rfl ?_
  refine s_aload_n hP t16_27 rfl ?_
  refine s_getfield hP t16_28 rfl rfl ?_
  refine s_iaload hP t16_31 rfl (by rw [hp8]; exact vp_in_nI (by omega) (by decide)) ?_
  rw [show (p 8).toNatClampNeg = N by rw [hp8]; exact nI_clamp (by omega)]
  refine s_putfield hP t16_32 rfl rfl rfl rfl ?_
  exact k
set_option maxHeartbeats 2000000 in
theorem sp16_2_t35 {d : Nat} {K : am_K} {ha : Nat → Nat → Int32} {hz : Int32} {a1 : Nat → Nat → Int32} {s1 : Nat → Int32} {t1 : UInt32} {a2 : Nat → Nat → Int32} {s2 : Nat → Int32} {t2 : UInt32} {al : Int32} {ma : Nat → Nat → Int32} {ms : Nat → Int32} {mt : UInt32} {ol : Nat → Int64} {od : Nat → UInt64} {N : Nat} {p : Nat → Int32} (hp8 : p 8 = nI N) (hN9 : N < 64) (P : am_P) (hm : am_mono P) (hP : am_cl am_G am_ro am_ft am_df (am_Ex am_G am_ro am_ft am_df (d + 5)) 16 K P) (k : P 52 [some (.ref 27), some (.ref 9), none] [] (am_W ha hz a1 s1 t1 a2 (am_u1 p 17 (mc_val (a2 2) (ha 6 N))) t2 al ma ms mt ol od) 0 0) : P 35 [some (.ref 27), some (.ref 9), none] [] (am_W ha hz a1 s1 t1 a2 p t2 al ma ms mt ol od) 0 0 := by
  refine s_aload_n hP t16_35 rfl ?_
  refine s_aload_n hP t16_36 rfl ?_
  refine s_aload_n hP t16_37 rfl ?_
  refine s_getfield hP t16_38 rfl rfl ?_
  refine s_aload_n hP t16_41 rfl ?_
  refine s_getfield hP t16_42 rfl rfl ?_
  refine s_iaload hP t16_45 rfl (by rw [hp8]; exact vp_in_nI (by omega) (by decide)) ?_
  rw [show (p 8).toNatClampNeg = N by rw [hp8]; exact nI_clamp (by omega)]
  refine s_invokevirtual (bc' := 0) (bs' := 0) hP t16_46 rfl rfl rfl rfl rfl ?_
  refine sp17_2 ?_
  refine s_putfield hP t16_49 rfl rfl rfl rfl ?_
  exact k
set_option maxHeartbeats 2000000 in
theorem sp16_2_t52 {d : Nat} {K : am_K} {ha : Nat → Nat → Int32} {hz : Int32} {a1 : Nat → Nat → Int32} {s1 : Nat → Int32} {t1 : UInt32} {a2 : Nat → Nat → Int32} {s2 : Nat → Int32} {t2 : UInt32} {al : Int32} {ma : Nat → Nat → Int32} {ms : Nat → Int32} {mt : UInt32} {ol : Nat → Int64} {od : Nat → UInt64} {N : Nat} {p : Nat → Int32} (hp8 : p 8 = nI N) (hN9 : N < 64) (P : am_P) (hm : am_mono P) (hP : am_cl am_G am_ro am_ft am_df (am_Ex am_G am_ro am_ft am_df (d + 5)) 16 K P) (k : P 69 [some (.ref 27), some (.ref 9), none] [] (am_W ha hz a1 s1 t1 a2 (am_u1 p 18 (mc_val (a2 2) (ha 7 N))) t2 al ma ms mt ol od) 0 0) : P 52 [some (.ref 27), some (.ref 9), none] [] (am_W ha hz a1 s1 t1 a2 p t2 al ma ms mt ol od) 0 0 := by
  refine s_aload_n hP t16_52 rfl ?_
  refine s_aload_n hP t16_53 rfl ?_
  refine s_aload_n hP t16_54 rfl ?_
  refine s_getfield hP t16_55 rfl rfl ?_
  refine s_aload_n hP t16_58 rfl ?_
  refine s_getfield hP t16_59 rfl rfl ?_
  refine s_iaload hP t16_62 rfl (by rw [hp8]; exact vp_in_nI (by omega) (by decide)) ?_
  rw [show (p 8).toNatClampNeg = N by rw [hp8]; exact nI_clamp (by omega)]
  refine s_invokevirtual (bc' := 0) (bs' := 0) hP t16_63 rfl rfl rfl rfl rfl ?_
  refine sp17_2 ?_
  refine s_putfield hP t16_66 rfl rfl rfl rfl ?_
  exact k
set_option maxHeartbeats 2000000 in
theorem sp16_2_t69 {d : Nat} {K : am_K} {ha : Nat → Nat → Int32} {hz : Int32} {a1 : Nat → Nat → Int32} {s1 : Nat → Int32} {t1 : UInt32} {a2 : Nat → Nat → Int32} {s2 : Nat → Int32} {t2 : UInt32} {al : Int32} {ma : Nat → Nat → Int32} {ms : Nat → Int32} {mt : UInt32} {ol : Nat → Int64} {od : Nat → UInt64} {N : Nat} {p : Nat → Int32} (hp8 : p 8 = nI N) (hN9 : N < 64) (P : am_P) (hm : am_mono P) (hP : am_cl am_G am_ro am_ft am_df (am_Ex am_G am_ro am_ft am_df (d + 5)) 16 K P) (k : P 86 [some (.ref 27), some (.ref 9), none] [] (am_W ha hz a1 s1 t1 a2 (am_u1 p 19 (mc_val (a2 2) (ha 8 N))) t2 al ma ms mt ol od) 0 0) : P 69 [some (.ref 27), some (.ref 9), none] [] (am_W ha hz a1 s1 t1 a2 p t2 al ma ms mt ol od) 0 0 := by
  refine s_aload_n hP t16_69 rfl ?_
  refine s_aload_n hP t16_70 rfl ?_
  refine s_aload_n hP t16_71 rfl ?_
  refine s_getfield hP t16_72 rfl rfl ?_
  refine s_aload_n hP t16_75 rfl ?_
  refine s_getfield hP t16_76 rfl rfl ?_
  refine s_iaload hP t16_79 rfl (by rw [hp8]; exact vp_in_nI (by omega) (by decide)) ?_
  rw [show (p 8).toNatClampNeg = N by rw [hp8]; exact nI_clamp (by omega)]
  refine s_invokevirtual (bc' := 0) (bs' := 0) hP t16_80 rfl rfl rfl rfl rfl ?_
  refine sp17_2 ?_
  refine s_putfield hP t16_83 rfl rfl rfl rfl ?_
  exact k
set_option maxHeartbeats 1000000 in
theorem sp16_2_h52 {d : Nat} {K : am_K} {ha : Nat → Nat → Int32} {hz : Int32} {a1 : Nat → Nat → Int32} {s1 : Nat → Int32} {t1 : UInt32} {a2 : Nat → Nat → Int32} {s2 : Nat → Int32} {t2 : UInt32} {al : Int32} {ma : Nat → Nat → Int32} {ms : Nat → Int32} {mt : UInt32} {ol : Nat → Int64} {od : Nat → UInt64} {N : Nat} {p : Nat → Int32} (hp8 : p 8 = nI N) (hN9 : N < 64) (P : am_P) (hm : am_mono P) (hP : am_cl am_G am_ro am_ft am_df (am_Ex am_G am_ro am_ft am_df (d + 5)) 16 K P) (k : P 86 [some (.ref 27), some (.ref 9), none] [] (am_W ha hz a1 s1 t1 a2 (am_u1 (am_u1 p 18 (mc_val (a2 2) (ha 7 N))) 19 (mc_val (a2 2) (ha 8 N))) t2 al ma ms mt ol od) 0 0) : P 52 [some (.ref 27), some (.ref 9), none] [] (am_W ha hz a1 s1 t1 a2 p t2 al ma ms mt ol od) 0 0 := by
  refine sp16_2_t52 (s2 := s2) (N := N) (p := p) hp8 hN9 P hm hP ?_
  generalize hv : mc_val (a2 2) (ha 7 N) = v at k ⊢
  have hq8 : am_u1 p 18 v 8 = nI N := hp8
  generalize am_u1 p 18 v = q at hq8 k ⊢
  exact sp16_2_t69 (s2 := s2) (N := N) (p := q) hq8 hN9 P hm hP k
set_option maxHeartbeats 1000000 in
theorem sp16_2_h35 {d : Nat} {K : am_K} {ha : Nat → Nat → Int32} {hz : Int32} {a1 : Nat → Nat → Int32} {s1 : Nat → Int32} {t1 : UInt32} {a2 : Nat → Nat → Int32} {s2 : Nat → Int32} {t2 : UInt32} {al : Int32} {ma : Nat → Nat → Int32} {ms : Nat → Int32} {mt : UInt32} {ol : Nat → Int64} {od : Nat → UInt64} {N : Nat} {p : Nat → Int32} (hp8 : p 8 = nI N) (hN9 : N < 64) (P : am_P) (hm : am_mono P) (hP : am_cl am_G am_ro am_ft am_df (am_Ex am_G am_ro am_ft am_df (d + 5)) 16 K P) (k : P 86 [some (.ref 27), some (.ref 9), none] [] (am_W ha hz a1 s1 t1 a2 (am_u1 (am_u1 (am_u1 p 17 (mc_val (a2 2) (ha 6 N))) 18 (mc_val (a2 2) (ha 7 N))) 19 (mc_val (a2 2) (ha 8 N))) t2 al ma ms mt ol od) 0 0) : P 35 [some (.ref 27), some (.ref 9), none] [] (am_W ha hz a1 s1 t1 a2 p t2 al ma ms mt ol od) 0 0 := by
  refine sp16_2_t35 (s2 := s2) (N := N) (p := p) hp8 hN9 P hm hP ?_
  generalize hv : mc_val (a2 2) (ha 6 N) = v at k ⊢
  have hq8 : am_u1 p 17 v 8 = nI N := hp8
  generalize am_u1 p 17 v = q at hq8 k ⊢
  exact sp16_2_h52 (s2 := s2) (N := N) (p := q) hq8 hN9 P hm hP k
set_option maxHeartbeats 1000000 in
theorem sp16_2_h22 {d : Nat} {K : am_K} {ha : Nat → Nat → Int32} {hz : Int32} {a1 : Nat → Nat → Int32} {s1 : Nat → Int32} {t1 : UInt32} {a2 : Nat → Nat → Int32} {s2 : Nat → Int32} {t2 : UInt32} {al : Int32} {ma : Nat → Nat → Int32} {ms : Nat → Int32} {mt : UInt32} {ol : Nat → Int64} {od : Nat → UInt64} {N : Nat} {p : Nat → Int32} (hp8 : p 8 = nI N) (hN9 : N < 64) (P : am_P) (hm : am_mono P) (hP : am_cl am_G am_ro am_ft am_df (am_Ex am_G am_ro am_ft am_df (d + 5)) 16 K P) (k : P 86 [some (.ref 27), some (.ref 9), none] [] (am_W ha hz a1 s1 t1 a2 (mx_q4 ha N a2 p) t2 al ma ms mt ol od) 0 0) : P 22 [some (.ref 27), some (.ref 9), none] [] (am_W ha hz a1 s1 t1 a2 p t2 al ma ms mt ol od) 0 0 := by
  refine sp16_2_t22 (s2 := s2) (N := N) (p := p) hp8 hN9 P hm hP ?_
  have k9 : P 86 [some (.ref 27), some (.ref 9), none] [] (am_W ha hz a1 s1 t1 a2 (am_u1 (am_u1 (am_u1 (am_u1 p 16 (ha 5 N)) 17 (mc_val (a2 2) (ha 6 N))) 18 (mc_val (a2 2) (ha 7 N))) 19 (mc_val (a2 2) (ha 8 N))) t2 al ma ms mt ol od) 0 0 := k
  have hq8 : am_u1 p 16 (ha 5 N) 8 = nI N := hp8
  generalize am_u1 p 16 (ha 5 N) = q at hq8 k9 ⊢
  exact sp16_2_h35 (s2 := s2) (N := N) (p := q) hq8 hN9 P hm hP k9
set_option maxHeartbeats 2000000 in
theorem sp16_2_m {d : Nat} {K : am_K} {ha : Nat → Nat → Int32} {hz : Int32} {a1 : Nat → Nat → Int32} {s1 : Nat → Int32} {t1 : UInt32} {a2 : Nat → Nat → Int32} {s2 : Nat → Int32} {t2 : UInt32} {al : Int32} {ma : Nat → Nat → Int32} {ms : Nat → Int32} {mt : UInt32} {ol : Nat → Int64} {od : Nat → UInt64} {N M : Nat} (hN : s2 8 = nI N) (hM : hz = nI M) (hM9 : M ≤ 64) (hNM : N < M) (hk : mi_kind (ha 5 N) = true) {S T : Nat → Bool} {sh R X Y Z : Nat} (hS : ∀ j, j < 72 → a2 0 j = mr_w (fun q => S (16 * j + q))) (hT : ∀ j, j < 72 → ha 3 j = mr_w (fun q => T (16 * j + q))) (hsl : s2 10 = -1 ∨ ∃ c, s2 10 = nI c ∧ c < 12 ∧ ha 0 c = nI sh ∧ ha 1 c = nI R) (hsh : sh = 101 ∨ sh = 98 ∨ sh = 118) (hR : R < 4) (hX : a2 3 0 = nI X) (hY : a2 3 1 = nI Y) (hZ : a2 3 2 = nI Z) (hX9 : X < 16) (hY9 : Y < 12) (hZ9 : Z < 10) (hO : ∃ O, s2 13 = nI O ∧ O < 4) (hb1 : mi_iw ((mx_q4 ha N a2 s2) 17) (-50) 50 = true) (hb2 : mi_iw ((mx_q4 ha N a2 s2) 18) (-50) 50 = true) (hb3 : mi_iw ((mx_q4 ha N a2 s2) 19) (-50) 50 = true) (hin : (∀ e ∈ mx_es ha a2 (mx_q4 ha N a2 s2), ml_ins e = true) → ∀ e ∈ mx_es ha a2 (mx_q4 ha N a2 s2), ml_inn e) (htm : (∀ e ∈ mx_es ha a2 (mx_q4 ha N a2 s2), ml_inn e) → vf_n32 (mx_f (mx_q4 ha N a2 s2)) ∧ ml_tok (mx_f (mx_q4 ha N a2 s2)) (mx_es ha a2 (mx_q4 ha N a2 s2)) t2) (ka : ∀ (b : Nat → Nat → Int32) (p : Nat → Int32), ¬ (mx_al ha S T a2 (mx_q4 ha N a2 s2) sh R X Y Z) = 45 → (∀ i, i ≤ 4 → b i = a2 i) → (∀ j, j ≤ 15 → p j = s2 j) → p 16 = ha 5 N → K (some (.int (mx_al ha S T a2 (mx_q4 ha N a2 s2) sh R X Y Z))) (am_W ha hz a1 s1 t1 b p t2 al ma ms mt ol od)) (kf : ∀ (b : Nat → Nat → Int32) (p : Nat → Int32), (mx_al ha S T a2 (mx_q4 ha N a2 s2) sh R X Y Z) = 45 → (∀ j, j < 72 → b 0 j = mr_w (fun q => mx_S ha a2 (mx_q4 ha N a2 s2) sh R S (16 * j + q))) → (∀ i, 1 ≤ i → i ≤ 4 → b i = mx_A ha hz N a2 (mx_q4 ha N a2 s2) sh R X Y Z S i) → (∀ j, j ≤ 19 → p j = mx_Q ha hz N a2 (mx_q4 ha N a2 s2) sh R S j) → K (some (.int 45)) (am_W ha hz a1 s1 t1 b p (mx_t ha a2 (mx_q4 ha N a2 s2) t2) al ma ms mt ol od)) (P : am_P) (hm : am_mono P) (hP : am_cl am_G am_ro am_ft am_df (am_Ex am_G am_ro am_ft am_df (d + 5)) 16 K P) (e90 : mc_told ha ((mx_q4 ha N a2 s2) 16) ((mx_q4 ha N a2 s2) 17) ((mx_q4 ha N a2 s2) 18) ((mx_q4 ha N a2 s2) 19) = true) (e97 : mx_tool ha a2 (mx_q4 ha N a2 s2) = 45)  : P 109 [some (.ref 27), some (.ref 9), some (.int (mx_tool ha a2 (mx_q4 ha N a2 s2)))] [] (am_W ha hz a1 s1 t1 a2 (mx_q4 ha N a2 s2) t2 al ma ms mt ol od) 0 0 := by
  refine s_aload_n hP t16_109 rfl ?_
  refine s_invokevirtual (bc' := 0) (bs' := 0) hP t16_110 rfl rfl rfl rfl rfl ?_
  refine sp24_2 (s2 := (mx_q4 ha N a2 s2)) (fun _ => hO) (fun q => mc_told_100 q e90 hb1 hb2) (fun q => mc_told_112 q e90 hb1 hb2 hb3) (fun f g e L hH he0 he1 he2 hLe => ?_)
  have hLe : L = (mx_es ha a2 (mx_q4 ha N a2 s2)).length := hLe
  have hlen : (mx_es ha a2 (mx_q4 ha N a2 s2)).length ≤ 102 := mx_es_len (fun q => mc_told_100 q e90 hb1 hb2) (fun q => mc_told_112 q e90 hb1 hb2 hb3)
  have rest := @sp16_2_b d K ha hz a1 s1 t1 a2 s2 t2 al ma ms mt ol od N M hN hM hM9 hNM hk S T sh R X Y Z hS hT hsl hsh hR hX hY hZ hX9 hY9 hZ9 hO hb1 hb2 hb3 hin htm ka kf P hm hP e90 e97 f g e L hH he0 he1 he2 hLe hlen
  refine s_aload_n hP t16_113 rfl ?_
  refine s_invokevirtual (bc' := 0) (bs' := 0) hP t16_114 rfl rfl rfl rfl rfl ?_
  have hsl2 : ¬ (mx_q4 ha N a2 s2) 10 = -1 → ha 0 (s2 10).toNatClampNeg = nI sh ∧ ha 1 (s2 10).toNatClampNeg = nI R := fun r => by
    obtain ⟨c, hc, hc9, hc0, hc1⟩ := hsl.resolve_left r
    rw [hc, nI_clamp (by omega)]
    exact ⟨hc0, hc1⟩
  have e10 : mq_s (mx_q4 ha N a2 s2) L 10 = s2 10 := (am_u1_no (by decide)).trans (mx_q4_lo (by omega))
  refine sp30_2 (a2 := mq_a a2 f g e) (s2 := mq_s (mx_q4 ha N a2 s2) L) (fun q => ?_) (fun q => ?_)
  · refine rest _ (fun j hj => ?_) mq_s_20 (fun r => ?_)
    · exact am_u1_no (by omega)
    · rw [e10] at q
      obtain ⟨c, hc, hc9, hc0, hc1⟩ := hsl.resolve_left r
      rw [hc, mi_iw11 (by omega)] at q
      cases q
  · refine rest _ (fun j hj => ?_) ((am_u1_no (by decide)).trans ((am_u1_no (by decide)).trans mq_s_20)) (fun r => ?_)
    · exact (am_u1_no (by omega)).trans ((am_u1_no (by omega)).trans (am_u1_no (by omega)))
    · rw [e10]
      exact ⟨((am_u1_no (by decide)).trans am_u1_yes).trans (hsl2 r).1, am_u1_yes.trans (hsl2 r).2⟩
set_option maxHeartbeats 2000000 in
theorem sp16_2_a {d : Nat} {K : am_K} {ha : Nat → Nat → Int32} {hz : Int32} {a1 : Nat → Nat → Int32} {s1 : Nat → Int32} {t1 : UInt32} {a2 : Nat → Nat → Int32} {s2 : Nat → Int32} {t2 : UInt32} {al : Int32} {ma : Nat → Nat → Int32} {ms : Nat → Int32} {mt : UInt32} {ol : Nat → Int64} {od : Nat → UInt64} {N M : Nat} (hN : s2 8 = nI N) (hM : hz = nI M) (hM9 : M ≤ 64) (hNM : N < M) (hk : mi_kind (ha 5 N) = true) {S T : Nat → Bool} {sh R X Y Z : Nat} (hS : ∀ j, j < 72 → a2 0 j = mr_w (fun q => S (16 * j + q))) (hT : ∀ j, j < 72 → ha 3 j = mr_w (fun q => T (16 * j + q))) (hsl : s2 10 = -1 ∨ ∃ c, s2 10 = nI c ∧ c < 12 ∧ ha 0 c = nI sh ∧ ha 1 c = nI R) (hsh : sh = 101 ∨ sh = 98 ∨ sh = 118) (hR : R < 4) (hX : a2 3 0 = nI X) (hY : a2 3 1 = nI Y) (hZ : a2 3 2 = nI Z) (hX9 : X < 16) (hY9 : Y < 12) (hZ9 : Z < 10) (hO : ∃ O, s2 13 = nI O ∧ O < 4) (hb1 : mi_iw ((mx_q4 ha N a2 s2) 17) (-50) 50 = true) (hb2 : mi_iw ((mx_q4 ha N a2 s2) 18) (-50) 50 = true) (hb3 : mi_iw ((mx_q4 ha N a2 s2) 19) (-50) 50 = true) (hin : (∀ e ∈ mx_es ha a2 (mx_q4 ha N a2 s2), ml_ins e = true) → ∀ e ∈ mx_es ha a2 (mx_q4 ha N a2 s2), ml_inn e) (htm : (∀ e ∈ mx_es ha a2 (mx_q4 ha N a2 s2), ml_inn e) → vf_n32 (mx_f (mx_q4 ha N a2 s2)) ∧ ml_tok (mx_f (mx_q4 ha N a2 s2)) (mx_es ha a2 (mx_q4 ha N a2 s2)) t2) (ka : ∀ (b : Nat → Nat → Int32) (p : Nat → Int32), ¬ (mx_al ha S T a2 (mx_q4 ha N a2 s2) sh R X Y Z) = 45 → (∀ i, i ≤ 4 → b i = a2 i) → (∀ j, j ≤ 15 → p j = s2 j) → p 16 = ha 5 N → K (some (.int (mx_al ha S T a2 (mx_q4 ha N a2 s2) sh R X Y Z))) (am_W ha hz a1 s1 t1 b p t2 al ma ms mt ol od)) (kf : ∀ (b : Nat → Nat → Int32) (p : Nat → Int32), (mx_al ha S T a2 (mx_q4 ha N a2 s2) sh R X Y Z) = 45 → (∀ j, j < 72 → b 0 j = mr_w (fun q => mx_S ha a2 (mx_q4 ha N a2 s2) sh R S (16 * j + q))) → (∀ i, 1 ≤ i → i ≤ 4 → b i = mx_A ha hz N a2 (mx_q4 ha N a2 s2) sh R X Y Z S i) → (∀ j, j ≤ 19 → p j = mx_Q ha hz N a2 (mx_q4 ha N a2 s2) sh R S j) → K (some (.int 45)) (am_W ha hz a1 s1 t1 b p (mx_t ha a2 (mx_q4 ha N a2 s2) t2) al ma ms mt ol od)) (P : am_P) (hm : am_mono P) (hP : am_cl am_G am_ro am_ft am_df (am_Ex am_G am_ro am_ft am_df (d + 5)) 16 K P) : P 86 [some (.ref 27), some (.ref 9), none] [] (am_W ha hz a1 s1 t1 a2 (mx_q4 ha N a2 s2) t2 al ma ms mt ol od) 0 0 := by
  refine s_aload_n hP t16_86 rfl ?_
  refine s_invokevirtual (bc' := 0) (bs' := 0) hP t16_87 rfl rfl rfl rfl rfl ?_
  refine sp18_2 (s2 := (mx_q4 ha N a2 s2)) hk ?_
  refine s_zeq hP t16_90 (fun q90 => ?_) (fun q90 => ?_)
  · have q90 : mc_told ha ((mx_q4 ha N a2 s2) 16) ((mx_q4 ha N a2 s2) 17) ((mx_q4 ha N a2 s2) 18) ((mx_q4 ha N a2 s2) 19) = false := q90
    refine s_bipush (v := 110) hP t16_100 (by decide) ?_
    refine s_istore_n_2 hP t16_102 (by exact rfl) ?_
    refine s_iload_n hP t16_103 rfl ?_
    refine s_bipush (v := 45) hP t16_104 (by decide) ?_
    refine s_icmp_ne hP t16_106 (fun q106 => ?_) (fun q106 => ?_)
    · refine s_iload_n hP t16_122 rfl ?_
      refine s_bipush (v := 45) hP t16_123 (by decide) ?_
      refine s_icmp_ne hP t16_125 (fun q125 => ?_) (fun q125 => ?_)
      · refine s_iload_n hP t16_146 rfl ?_
        refine s_ireturn hP t16_147 rfl rfl ?_
        have eal : (mx_al ha S T a2 (mx_q4 ha N a2 s2) sh R X Y Z) = 110 := by rw [mx_al, if_pos q90]
        have k9 := ka a2 (mx_q4 ha N a2 s2) (by rw [eal]; exact q125) (fun i _ => rfl) (fun j hj => mx_q4_lo hj) rfl
        rw [eal] at k9
        exact k9
      · exact absurd q125 q106
    · exact absurd q106 (by decide)
  · have e90 : mc_told ha ((mx_q4 ha N a2 s2) 16) ((mx_q4 ha N a2 s2) 17) ((mx_q4 ha N a2 s2) 18) ((mx_q4 ha N a2 s2) 19) = true := q90
    refine s_aload_n hP t16_93 rfl ?_
    refine s_invokevirtual (bc' := 0) (bs' := 0) hP t16_94 rfl rfl rfl rfl rfl ?_
    refine sp19_2 (s2 := (mx_q4 ha N a2 s2)) (fun q => mc_told_116 q e90) ?_
    refine s_goto hP t16_97 ?_
    refine s_istore_n_2 hP t16_102 (by exact rfl) ?_
    refine s_iload_n hP t16_103 rfl ?_
    refine s_bipush (v := 45) hP t16_104 (by decide) ?_
    refine s_icmp_ne hP t16_106 (fun q106 => ?_) (fun q106 => ?_)
    · refine s_iload_n hP t16_122 rfl ?_
      refine s_bipush (v := 45) hP t16_123 (by decide) ?_
      refine s_icmp_ne hP t16_125 (fun q125 => ?_) (fun q125 => ?_)
      · refine s_iload_n hP t16_146 rfl ?_
        refine s_ireturn hP t16_147 rfl mc_tool_nar ?_
        have eal : (mx_al ha S T a2 (mx_q4 ha N a2 s2) sh R X Y Z) = mx_tool ha a2 (mx_q4 ha N a2 s2) := by rw [mx_al, if_neg (by rw [q90]; decide), if_pos (show ¬ mx_tool ha a2 (mx_q4 ha N a2 s2) = 45 from q106)]
        have k9 := ka a2 (mx_q4 ha N a2 s2) (by rw [eal]; exact q125) (fun i _ => rfl) (fun j hj => mx_q4_lo hj) rfl
        rw [eal] at k9
        exact k9
      · exact absurd q125 q106
    · exact sp16_2_m hN hM hM9 hNM hk hS hT hsl hsh hR hX hY hZ hX9 hY9 hZ9 hO hb1 hb2 hb3 hin htm ka kf P hm hP e90 q106
set_option maxHeartbeats 4000000 in
theorem sp16_2 {d : Nat} {K : am_K} {ha : Nat → Nat → Int32} {hz : Int32} {a1 : Nat → Nat → Int32} {s1 : Nat → Int32} {t1 : UInt32} {a2 : Nat → Nat → Int32} {s2 : Nat → Int32} {t2 : UInt32} {al : Int32} {ma : Nat → Nat → Int32} {ms : Nat → Int32} {mt : UInt32} {ol : Nat → Int64} {od : Nat → UInt64} {N M : Nat} (hN : s2 8 = nI N) (hM : hz = nI M) (hM9 : M ≤ 64) (hNM : N < M) (hk : mi_kind (ha 5 N) = true) {S T : Nat → Bool} {sh R X Y Z : Nat} (hS : ∀ j, j < 72 → a2 0 j = mr_w (fun q => S (16 * j + q))) (hT : ∀ j, j < 72 → ha 3 j = mr_w (fun q => T (16 * j + q))) (hsl : s2 10 = -1 ∨ ∃ c, s2 10 = nI c ∧ c < 12 ∧ ha 0 c = nI sh ∧ ha 1 c = nI R) (hsh : sh = 101 ∨ sh = 98 ∨ sh = 118) (hR : R < 4) (hX : a2 3 0 = nI X) (hY : a2 3 1 = nI Y) (hZ : a2 3 2 = nI Z) (hX9 : X < 16) (hY9 : Y < 12) (hZ9 : Z < 10) (hO : ∃ O, s2 13 = nI O ∧ O < 4) (hb1 : mi_iw ((mx_q4 ha N a2 s2) 17) (-50) 50 = true) (hb2 : mi_iw ((mx_q4 ha N a2 s2) 18) (-50) 50 = true) (hb3 : mi_iw ((mx_q4 ha N a2 s2) 19) (-50) 50 = true) (hin : (∀ e ∈ mx_es ha a2 (mx_q4 ha N a2 s2), ml_ins e = true) → ∀ e ∈ mx_es ha a2 (mx_q4 ha N a2 s2), ml_inn e) (htm : (∀ e ∈ mx_es ha a2 (mx_q4 ha N a2 s2), ml_inn e) → vf_n32 (mx_f (mx_q4 ha N a2 s2)) ∧ ml_tok (mx_f (mx_q4 ha N a2 s2)) (mx_es ha a2 (mx_q4 ha N a2 s2)) t2) (ka : ∀ (b : Nat → Nat → Int32) (p : Nat → Int32), ¬ (mx_al ha S T a2 (mx_q4 ha N a2 s2) sh R X Y Z) = 45 → (∀ i, i ≤ 4 → b i = a2 i) → (∀ j, j ≤ 15 → p j = s2 j) → p 16 = ha 5 N → K (some (.int (mx_al ha S T a2 (mx_q4 ha N a2 s2) sh R X Y Z))) (am_W ha hz a1 s1 t1 b p t2 al ma ms mt ol od)) (kf : ∀ (b : Nat → Nat → Int32) (p : Nat → Int32), (mx_al ha S T a2 (mx_q4 ha N a2 s2) sh R X Y Z) = 45 → (∀ j, j < 72 → b 0 j = mr_w (fun q => mx_S ha a2 (mx_q4 ha N a2 s2) sh R S (16 * j + q))) → (∀ i, 1 ≤ i → i ≤ 4 → b i = mx_A ha hz N a2 (mx_q4 ha N a2 s2) sh R X Y Z S i) → (∀ j, j ≤ 19 → p j = mx_Q ha hz N a2 (mx_q4 ha N a2 s2) sh R S j) → K (some (.int 45)) (am_W ha hz a1 s1 t1 b p (mx_t ha a2 (mx_q4 ha N a2 s2) t2) al ma ms mt ol od)) : am_Run (d + 6) 16 [.ref 27] (am_W ha hz a1 s1 t1 a2 s2 t2 al ma ms mt ol od) K := by
  refine ⟨rfl, fun P hm hP => ?_⟩
  show P 0 [some (.ref 27), none, none] [] _ 0 0
  refine s_aload_n hP t16_0 rfl ?_
  refine s_getfield hP t16_1 rfl rfl ?_
  refine s_getfield hP t16_4 rfl rfl ?_
  refine s_astore_n_1 hP t16_7 (by exact rfl) ?_
  refine s_aload_n hP t16_8 rfl ?_
  refine s_aload_n hP t16_9 rfl ?_
  refine s_getfield hP t16_10 rfl rfl ?_
  refine s_invokevirtual (bc' := 0) (bs' := 0) hP t16_13 rfl rfl rfl rfl rfl ?_
  refine sp54 (sz := nI M) (by rw [← hM]; rfl) ?_
  rw [show mi_iw (s2 8) 0 (nI M - 1) = true by
    rw [hN]
    obtain ⟨M9, rfl⟩ : ∃ M9, M = M9 + 1 := ⟨M - 1, by omega⟩
    rw [nI_pred]
    exact mi_iw_at (by omega) (by omega)]
  refine s_zne hP t16_16 (fun q16 => ?_) (fun q16 => ?_)
  · exact sp16_2_h22 (s2 := s2) (N := N) (p := s2) hN (by omega) P hm hP (sp16_2_a hN hM hM9 hNM hk hS hT hsl hsh hR hX hY hZ hX9 hY9 hZ9 hO hb1 hb2 hb3 hin htm ka kf P hm hP)
  · cases q16
