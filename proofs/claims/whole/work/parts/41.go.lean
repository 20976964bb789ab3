/-! THE MODEL: a leg, looked through for the space, for what is met, and carried out. (rows by gen/sp18.py) -/
def mg_n (e : ml_L) : Int32 := mi_max (mi_abs e.2.2.2.1) (mi_max (mi_abs e.2.2.2.2.1) (mi_abs e.2.2.2.2.2))
/-- the steps of a leg are few, and both sides count them alike -/
def mg_few (e : ml_L) : Prop := mg_n e = nI (ml_N e) ∧ ml_n e = nI (ml_N e) ∧ ml_N e < 1000
def mg_at (e : ml_L) (k : Nat) : Bool := mi_place (ml_x e k) (ml_y e k) (ml_z e k)
def mg_S (ma : Nat → Nat → Int32) (q : Nat) : Bool := decide (ma 14 q = 0)
def mg_to (ma : Nat → Nat → Int32) (x y z dx dy dz : Int32) : Nat → Nat → Int32 := am_u2 ma 12 (mp_3 (ma 12) 0 (x + dx) (y + dy) (z + dz))
def mg_tk (c s R : Nat) (ma : Nat → Nat → Int32) : List ml_P → (Nat → Nat → Int32)
  | [] => ma
  | p :: r => mg_tk c s R (mt_tk ma c (fun q => mg_S ma q && mr_re s R p.1 p.2.1 p.2.2 q) 1152) r
theorem mg_tk_app {c s R : Nat} : ∀ (l : List ml_P) (ma : Nat → Nat → Int32) (p : ml_P), mg_tk c s R ma (l ++ [p]) = mt_tk (mg_tk c s R ma l) c (fun q => mg_S (mg_tk c s R ma l) q && mr_re s R p.1 p.2.1 p.2.2 q) 1152
  | [], ma, p => rfl
  | x :: l, ma, p => mg_tk_app l _ p
theorem mt_tk_14 {ma : Nat → Nat → Int32} {c n : Nat} {re : Nat → Bool} : mt_tk ma c re n 14 = mt_f re n (ma 14) := rfl
theorem mt_tk_4 {ma : Nat → Nat → Int32} {c n : Nat} {re : Nat → Bool} : mt_tk ma c re n 4 = upd (ma 4) c (ma 4 c + nI (mr_cnt n re)) := rfl
theorem mt_tk_i {ma : Nat → Nat → Int32} {c n i : Nat} {re : Nat → Bool} (h4 : i ≠ 4) (h14 : i ≠ 14) : mt_tk ma c re n i = ma i := by
  simp only [mt_tk, am_u2, beq_no h4, beq_no h14, cond_false]
theorem mg_tk_i {c s R i : Nat} (h4 : i ≠ 4) (h14 : i ≠ 14) : ∀ (l : List ml_P) (ma : Nat → Nat → Int32), mg_tk c s R ma l i = ma i
  | [], ma => rfl
  | p :: l, ma => (mg_tk_i h4 h14 l _).trans (mt_tk_i h4 h14)
def mg_B (ma : Nat → Nat → Int32) : Prop := ∀ q, q < 1152 → ma 14 q = am_b (!mg_S ma q)
theorem mg_S_tk {ma : Nat → Nat → Int32} {c : Nat} {re : Nat → Bool} (h : mg_B ma) {q : Nat} (hq : q < 1152) : mg_S (mt_tk ma c re 1152) q = (mg_S ma q && !re q) := by
  have e : mt_tk ma c re 1152 14 q = cond (re q) 1 (ma 14 q) := by
    rw [mt_tk_14]
    simp only [mt_f]
    rw [decide_eq_true hq, Bool.true_and]
  unfold mg_S
  simp only [e]
  cases re q
  · simp only [cond_false, Bool.not_false, Bool.and_true]
  · simp only [cond_true, Bool.not_true, Bool.and_false]; exact decide_eq_false (by decide)
theorem mg_B_tk {ma : Nat → Nat → Int32} {c : Nat} {re : Nat → Bool} (h : mg_B ma) : mg_B (mt_tk ma c re 1152) := by
  intro q hq
  rw [mg_S_tk h hq, mt_tk_14]
  simp only [mt_f]
  rw [decide_eq_true hq, Bool.true_and]
  cases re q
  · rw [cond_false, h q hq, Bool.not_false, Bool.and_true]
  · rw [cond_true, Bool.not_true, Bool.and_false]; rfl
theorem mg_B_all {c s R : Nat} : ∀ (l : List ml_P) (ma : Nat → Nat → Int32), mg_B ma → mg_B (mg_tk c s R ma l)
  | [], ma, h => h
  | p :: l, ma, h => mg_B_all l _ (mg_B_tk h)
theorem mg_q {x dx : Int32} {k : Nat} {n : Int32} (h : ¬ n = 0) : x + dx * nI k / n = ml_q x dx (nI k) n := by
  rw [ml_q, if_neg h]
theorem mg_n0 {k N : Nat} (h1 : 1 ≤ k) (h2 : k ≤ N) (h3 : N < 1000) : ¬ nI N = 0 := fun h => by
  have := (nI_inj (a := N) (b := 0) (by omega) (by decide)).mp h
  omega
set_option maxHeartbeats 2000000 in
theorem sp121l {d : Nat} {K : am_K} {ha : Nat → Nat → Int32} {hz : Int32} {a1 : Nat → Nat → Int32} {s1 : Nat → Int32} {t1 : UInt32} {a2 : Nat → Nat → Int32} {s2 : Nat → Int32} {t2 : UInt32} {al : Int32} {ma : Nat → Nat → Int32} {ms : Nat → Int32} {mt : UInt32} {ol : Nat → Int64} {od : Nat → UInt64} {x y z dx dy dz : Int32} {cut : Bool} (hh : ms 26 = 108) (hf : mg_few (x, y, z, dx, dy, dz)) (kt : (∀ k, 1 ≤ k → k ≤ (ml_N (x, y, z, dx, dy, dz)) → mg_at (x, y, z, dx, dy, dz) k = true) → K (some (.int 1)) (am_W ha hz a1 s1 t1 a2 s2 t2 al (mg_to ma x y z dx dy dz) ms mt ol od)) (kf : (∃ k, 1 ≤ k ∧ k ≤ (ml_N (x, y, z, dx, dy, dz)) ∧ mg_at (x, y, z, dx, dy, dz) k = false) → K (some (.int 0)) (am_W ha hz a1 s1 t1 a2 s2 t2 al ma ms mt ol od)) : am_Run (d + 3) 121 [.ref 39, .int x, .int y, .int z, .int dx, .int dy, .int dz, .int (am_b cut)] (am_W ha hz a1 s1 t1 a2 s2 t2 al ma ms mt ol od) K := by
  refine ⟨rfl, fun P hm hP => ?_⟩
  show P 0 [some (.ref 39), some (.int x), some (.int y), some (.int z), some (.int dx), some (.int dy), some (.int dz), some (.int (am_b cut)), none, none, none, none, none] [] _ 0 0
  obtain ⟨hf1, hf2, hf3⟩ := hf
  have loop : ∀ (n i : Nat), i ≤ (ml_N (x, y, z, dx, dy, dz)) → (ml_N (x, y, z, dx, dy, dz)) + 1 ≤ i + n → (∀ j, 1 ≤ j → j ≤ i → mg_at (x, y, z, dx, dy, dz) j = true) → P 26 [some (.ref 39), some (.int x), some (.int y), some (.int z), some (.int dx), some (.int dy), some (.int dz), some (.int (am_b cut)), some (.int (nI (ml_N (x, y, z, dx, dy, dz)))), some (.int (nI (i + 1))), none, none, none] [] (am_W ha hz a1 s1 t1 a2 s2 t2 al ma ms mt ol od) 0 0 := by
    intro n
    induction n with
    | zero => intro i h3 h4; omega
    | succ n ih =>
      intro i h3 h4 hi
      refine s_iload hP t121_26 rfl ?_
      refine s_iload hP t121_28 rfl ?_
      refine s_icmp_gt hP t121_30 (fun q30 => ?_) (fun q30 => ?_)
      · have e30 : (ml_N (x, y, z, dx, dy, dz)) < i + 1 := Nat.lt_of_not_le (fun q => Int32.not_le.mpr q30 ((nI_leI (by omega) (by omega)).mpr q))
        refine s_aload_n hP t121_178 rfl ?_
        refine s_getfield hP t121_179 rfl rfl ?_
        refine s_bipush (v := 100) hP t121_182 (by decide) ?_
        refine s_icmp_ne hP t121_184 (fun q184 => ?_) (fun q184 => ?_)
        · refine s_aload_n hP t121_217 rfl ?_
          refine s_getfield hP t121_218 rfl rfl ?_
          refine s_iconst (v := 0) hP t121_221 (by decide) ?_
          refine s_iload_n hP t121_222 rfl ?_
          refine s_iload hP t121_223 rfl ?_
          refine s_iadd hP t121_225 ?_
          refine s_iastore hP t121_226 rfl (vp_in_nI (n := 0) (by decide) (by decide)) ?_
          refine s_aload_n hP t121_227 rfl ?_
          refine s_getfield hP t121_228 rfl rfl ?_
          refine s_iconst (v := 1) hP t121_231 (by decide) ?_
          refine s_iload_n hP t121_232 rfl ?_
          refine s_iload hP t121_233 rfl ?_
          refine s_iadd hP t121_235 ?_
          refine s_iastore hP t121_236 rfl (vp_in_nI (n := 1) (by decide) (by decide)) ?_
          refine s_aload_n hP t121_237 rfl ?_
          refine s_getfield hP t121_238 rfl rfl ?_
          refine s_iconst (v := 2) hP t121_241 (by decide) ?_
          refine s_iload_n hP t121_242 rfl ?_
          refine s_iload hP t121_243 rfl ?_
          refine s_iadd hP t121_245 ?_
          refine s_iastore hP t121_246 rfl (vp_in_nI (n := 2) (by decide) (by decide)) ?_
          refine s_iconst (v := 1) hP t121_247 (by decide) ?_
          refine s_ireturn hP t121_248 rfl rfl ?_
          exact kt (fun j h5 h6 => hi j h5 (by omega))
        · exact absurd q184 (by rw [hh]; decide)
      · have e30 : i + 1 ≤ (ml_N (x, y, z, dx, dy, dz)) := (nI_leI (by omega) (by omega)).mp (Int32.not_lt.mp q30)
        have n0 := mg_n0 (by omega) e30 hf3
        refine s_iload_n hP t121_33 rfl ?_
        refine s_iload hP t121_34 rfl ?_
        refine s_iload hP t121_36 rfl ?_
        refine s_imul hP t121_38 ?_
        refine s_iload hP t121_39 rfl ?_
        refine s_idiv hP t121_41 n0 ?_
        refine s_iadd hP t121_42 ?_
        rw [show x + dx * nI (i + 1) / nI (ml_N (x, y, z, dx, dy, dz)) = ml_x (x, y, z, dx, dy, dz) (i + 1) from by rw [mg_q n0, ← hf2]; rfl]
        refine s_istore_10 hP t121_43 (by exact rfl) ?_
        refine s_iload_n hP t121_45 rfl ?_
        refine s_iload hP t121_46 rfl ?_
        refine s_iload hP t121_48 rfl ?_
        refine s_imul hP t121_50 ?_
        refine s_iload hP t121_51 rfl ?_
        refine s_idiv hP t121_53 n0 ?_
        refine s_iadd hP t121_54 ?_
        rw [show y + dy * nI (i + 1) / nI (ml_N (x, y, z, dx, dy, dz)) = ml_y (x, y, z, dx, dy, dz) (i + 1) from by rw [mg_q n0, ← hf2]; rfl]
        refine s_istore_11 hP t121_55 (by exact rfl) ?_
        refine s_iload_n hP t121_57 rfl ?_
        refine s_iload hP t121_58 rfl ?_
        refine s_iload hP t121_60 rfl ?_
        refine s_imul hP t121_62 ?_
        refine s_iload hP t121_63 rfl ?_
        refine s_idiv hP t121_65 n0 ?_
        refine s_iadd hP t121_66 ?_
        rw [show z + dz * nI (i + 1) / nI (ml_N (x, y, z, dx, dy, dz)) = ml_z (x, y, z, dx, dy, dz) (i + 1) from by rw [mg_q n0, ← hf2]; rfl]
        refine s_istore_12 hP t121_67 (by exact rfl) ?_
        refine s_aload_n hP t121_69 rfl ?_
        refine s_getfield hP t121_70 rfl rfl ?_
        refine s_bipush (v := 108) hP t121_73 (by decide) ?_
        refine s_icmp_ne hP t121_75 (fun q75 => ?_) (fun q75 => ?_)
        · exact absurd hh q75
        · refine s_iload hP t121_78 rfl ?_
          refine s_iconst (v := 0) hP t121_80 (by decide) ?_
          refine s_bipush (v := 15) hP t121_81 (by decide) ?_
          refine s_invokestatic (bc' := 0) (bs' := 0) hP t121_83 rfl rfl rfl rfl rfl ?_
          refine sp97 ?_
          refine s_zeq hP t121_86 (fun q86 => ?_) (fun q86 => ?_)
          · refine s_iconst (v := 0) hP t121_111 (by decide) ?_
            refine s_ireturn hP t121_112 rfl rfl ?_
            exact kf ⟨i + 1, by omega, e30, by rw [mg_at, mi_place, q86, Bool.false_and, Bool.false_and]⟩
          · refine s_iload hP t121_89 rfl ?_
            refine s_iconst (v := 0) hP t121_91 (by decide) ?_
            refine s_bipush (v := 11) hP t121_92 (by decide) ?_
            refine s_invokestatic (bc' := 0) (bs' := 0) hP t121_94 rfl rfl rfl rfl rfl ?_
            refine sp97 ?_
            refine s_zeq hP t121_97 (fun q97 => ?_) (fun q97 => ?_)
            · refine s_iconst (v := 0) hP t121_111 (by decide) ?_
              refine s_ireturn hP t121_112 rfl rfl ?_
              exact kf ⟨i + 1, by omega, e30, by rw [mg_at, mi_place, q97, Bool.and_false, Bool.false_and]⟩
            · refine s_iload hP t121_100 rfl ?_
              refine s_iconst (v := 0) hP t121_102 (by decide) ?_
              refine s_bipush (v := 9) hP t121_103 (by decide) ?_
              refine s_invokestatic (bc' := 0) (bs' := 0) hP t121_105 rfl rfl rfl rfl rfl ?_
              refine sp97 ?_
              refine s_zne hP t121_108 (fun q108 => ?_) (fun q108 => ?_)
              · refine s_aload_n hP t121_113 rfl ?_
                refine s_getfield hP t121_114 rfl rfl ?_
                refine s_bipush (v := 99) hP t121_117 (by decide) ?_
                refine s_icmp_ne hP t121_119 (fun q119 => ?_) (fun q119 => ?_)
                · refine s_aload_n hP t121_148 rfl ?_
                  refine s_getfield hP t121_149 rfl rfl ?_
                  refine s_bipush (v := 100) hP t121_152 (by decide) ?_
                  refine s_icmp_ne hP t121_154 (fun q154 => ?_) (fun q154 => ?_)
                  · refine s_iinc_9 (v := 1) hP t121_172 (by decide) (by exact rfl) ?_
                    refine s_goto hP t121_175 ?_
                    rw [nI_1]
                    refine hm _ _ _ _ _ _ _ (by repeat (first | exact am_le_nil | apply am_le_cons | apply am_le_none)) (ih (i + 1) (by omega) (by omega) (fun j h5 h6 => by
                      by_cases h7 : j = i + 1
                      · rw [h7, mg_at, mi_place, q86, q97, q108]; rfl
                      · exact hi j h5 (by omega)))
                  · exact absurd q154 (by rw [hh]; decide)
                · exact absurd q119 (by rw [hh]; decide)
              · refine s_iconst (v := 0) hP t121_111 (by decide) ?_
                refine s_ireturn hP t121_112 rfl rfl ?_
                exact kf ⟨i + 1, by omega, e30, by rw [mg_at, mi_place, q108, Bool.and_false]⟩
  refine s_iload hP t121_0 rfl ?_
  refine s_invokestatic (bc' := 0) (bs' := 0) hP t121_2 rfl rfl rfl rfl rfl ?_
  refine sp119 ?_
  refine s_iload hP t121_5 rfl ?_
  refine s_invokestatic (bc' := 0) (bs' := 0) hP t121_7 rfl rfl rfl rfl rfl ?_
  refine sp119 ?_
  refine s_iload hP t121_10 rfl ?_
  refine s_invokestatic (bc' := 0) (bs' := 0) hP t121_12 rfl rfl rfl rfl rfl ?_
  refine sp119 ?_
  refine s_invokestatic (bc' := 0) (bs' := 0) hP t121_15 rfl rfl rfl rfl rfl ?_
  refine sp120 ?_
  refine s_invokestatic (bc' := 0) (bs' := 0) hP t121_18 rfl rfl rfl rfl rfl ?_
  refine sp120 ?_
  rw [show mi_max (mi_abs dx) (mi_max (mi_abs dy) (mi_abs dz)) = nI (ml_N (x, y, z, dx, dy, dz)) from hf1]
  refine s_istore_8 hP t121_21 (by exact rfl) ?_
  refine s_iconst (v := 1) hP t121_23 (by decide) ?_
  refine s_istore_9 hP t121_24 (by exact rfl) ?_
  exact loop ((ml_N (x, y, z, dx, dy, dz)) + 1) 0 (by omega) (by omega) (fun j h5 h6 => by omega)
theorem mg_cnt0 {p : Nat → Bool} : ∀ n, mr_cnt n p = 0 ↔ ∀ q, q < n → p q = false
  | 0 => ⟨fun _ q h => by omega, fun _ => rfl⟩
  | n + 1 => by
    rw [mr_cnt]
    constructor
    · intro h q hq
      by_cases h9 : q = n
      · subst h9
        cases hp : p q
        · rfl
        · rw [hp, cond_true] at h; omega
      · exact (mg_cnt0 n).mp (by omega) q (by omega)
    · intro h
      rw [(mg_cnt0 n).mpr (fun q hq => h q (by omega)), h n (by omega)]
      rfl
theorem mg_cntp {n : Nat} {p : Nat → Bool} (hn : n < 2000) : (nI (mr_cnt n p) ≤ 0) ↔ ∀ q, q < n → p q = false := by
  rw [← mg_cnt0 n]
  have h1 := mr_cnt_le n p
  have h2 := nI_leI (a := mr_cnt n p) (b := 0) (by omega) (by decide)
  rw [show (0 : Int32) = nI 0 from rfl, h2]
  omega
set_option maxHeartbeats 2000000 in
theorem sp121c {d : Nat} {K : am_K} {ha : Nat → Nat → Int32} {hz : Int32} {a1 : Nat → Nat → Int32} {s1 : Nat → Int32} {t1 : UInt32} {a2 : Nat → Nat → Int32} {s2 : Nat → Int32} {t2 : UInt32} {al : Int32} {ma : Nat → Nat → Int32} {ms : Nat → Int32} {mt : UInt32} {ol : Nat → Int64} {od : Nat → UInt64} {x y z dx dy dz : Int32} {cut : Bool} {S T : Nat → Bool} (hh : ms 26 = 99) (hf : mg_few (x, y, z, dx, dy, dz)) (hS : ∀ q, q < 1152 → ma 14 q = am_b (!S q)) (hT : ∀ q, q < 1152 → ma 13 q = am_b (T q)) {c s R : Nat} (hc : ms 19 = nI c) (hc9 : c < 12) (hs : ma 0 c = nI s) (hr : ma 2 c = nI R) (hsh : s = 101 ∨ s = 98 ∨ s = 118) (hR : R < 4) (hin : ml_inn (x, y, z, dx, dy, dz)) (kt : (¬ ∃ k, 1 ≤ k ∧ k ≤ (ml_N (x, y, z, dx, dy, dz)) ∧ ∃ q, q < 1152 ∧ ((!cut && S q) || (true && T q)) = true ∧ ml_re s R (ml_at (x, y, z, dx, dy, dz) k) q = true) → K (some (.int 1)) (am_W ha hz a1 s1 t1 a2 s2 t2 al (mg_to ma x y z dx dy dz) ms mt ol od)) (kf : (∃ k, 1 ≤ k ∧ k ≤ (ml_N (x, y, z, dx, dy, dz)) ∧ ∃ q, q < 1152 ∧ ((!cut && S q) || (true && T q)) = true ∧ ml_re s R (ml_at (x, y, z, dx, dy, dz) k) q = true) → K (some (.int 0)) (am_W ha hz a1 s1 t1 a2 s2 t2 al ma ms mt ol od)) : am_Run (d + 3) 121 [.ref 39, .int x, .int y, .int z, .int dx, .int dy, .int dz, .int (am_b cut)] (am_W ha hz a1 s1 t1 a2 s2 t2 al ma ms mt ol od) K := by
  refine ⟨rfl, fun P hm hP => ?_⟩
  show P 0 [some (.ref 39), some (.int x), some (.int y), some (.int z), some (.int dx), some (.int dy), some (.int dz), some (.int (am_b cut)), none, none, none, none, none] [] _ 0 0
  obtain ⟨hf1, hf2, hf3⟩ := hf
  have loop : ∀ (n i : Nat), i ≤ (ml_N (x, y, z, dx, dy, dz)) → (ml_N (x, y, z, dx, dy, dz)) + 1 ≤ i + n → (∀ j, 1 ≤ j → j ≤ i → ¬ ∃ q, q < 1152 ∧ ((!cut && S q) || (true && T q)) = true ∧ ml_re s R (ml_at (x, y, z, dx, dy, dz) j) q = true) → P 26 [some (.ref 39), some (.int x), some (.int y), some (.int z), some (.int dx), some (.int dy), some (.int dz), some (.int (am_b cut)), some (.int (nI (ml_N (x, y, z, dx, dy, dz)))), some (.int (nI (i + 1))), none, none, none] [] (am_W ha hz a1 s1 t1 a2 s2 t2 al ma ms mt ol od) 0 0 := by
    intro n
    induction n with
    | zero => intro i h3 h4; omega
    | succ n ih =>
      intro i h3 h4 hi
      refine s_iload hP t121_26 rfl ?_
      refine s_iload hP t121_28 rfl ?_
      refine s_icmp_gt hP t121_30 (fun q30 => ?_) (fun q30 => ?_)
      · have e30 : (ml_N (x, y, z, dx, dy, dz)) < i + 1 := Nat.lt_of_not_le (fun q => Int32.not_le.mpr q30 ((nI_leI (by omega) (by omega)).mpr q))
        refine s_aload_n hP t121_178 rfl ?_
        refine s_getfield hP t121_179 rfl rfl ?_
        refine s_bipush (v := 100) hP t121_182 (by decide) ?_
        refine s_icmp_ne hP t121_184 (fun q184 => ?_) (fun q184 => ?_)
        · refine s_aload_n hP t121_217 rfl ?_
          refine s_getfield hP t121_218 rfl rfl ?_
          refine s_iconst (v := 0) hP t121_221 (by decide) ?_
          refine s_iload_n hP t121_222 rfl ?_
          refine s_iload hP t121_223 rfl ?_
          refine s_iadd hP t121_225 ?_
          refine s_iastore hP t121_226 rfl (vp_in_nI (n := 0) (by decide) (by decide)) ?_
          refine s_aload_n hP t121_227 rfl ?_
          refine s_getfield hP t121_228 rfl rfl ?_
          refine s_iconst (v := 1) hP t121_231 (by decide) ?_
          refine s_iload_n hP t121_232 rfl ?_
          refine s_iload hP t121_233 rfl ?_
          refine s_iadd hP t121_235 ?_
          refine s_iastore hP t121_236 rfl (vp_in_nI (n := 1) (by decide) (by decide)) ?_
          refine s_aload_n hP t121_237 rfl ?_
          refine s_getfield hP t121_238 rfl rfl ?_
          refine s_iconst (v := 2) hP t121_241 (by decide) ?_
          refine s_iload_n hP t121_242 rfl ?_
          refine s_iload hP t121_243 rfl ?_
          refine s_iadd hP t121_245 ?_
          refine s_iastore hP t121_246 rfl (vp_in_nI (n := 2) (by decide) (by decide)) ?_
          refine s_iconst (v := 1) hP t121_247 (by decide) ?_
          refine s_ireturn hP t121_248 rfl rfl ?_
          exact kt (fun ⟨k9, h5, h6, h7⟩ => hi k9 h5 (by omega) h7)
        · exact absurd q184 (by rw [hh]; decide)
      · have e30 : i + 1 ≤ (ml_N (x, y, z, dx, dy, dz)) := (nI_leI (by omega) (by omega)).mp (Int32.not_lt.mp q30)
        have n0 := mg_n0 (by omega) e30 hf3
        refine s_iload_n hP t121_33 rfl ?_
        refine s_iload hP t121_34 rfl ?_
        refine s_iload hP t121_36 rfl ?_
        refine s_imul hP t121_38 ?_
        refine s_iload hP t121_39 rfl ?_
        refine s_idiv hP t121_41 n0 ?_
        refine s_iadd hP t121_42 ?_
        rw [show x + dx * nI (i + 1) / nI (ml_N (x, y, z, dx, dy, dz)) = ml_x (x, y, z, dx, dy, dz) (i + 1) from by rw [mg_q n0, ← hf2]; rfl]
        refine s_istore_10 hP t121_43 (by exact rfl) ?_
        refine s_iload_n hP t121_45 rfl ?_
        refine s_iload hP t121_46 rfl ?_
        refine s_iload hP t121_48 rfl ?_
        refine s_imul hP t121_50 ?_
        refine s_iload hP t121_51 rfl ?_
        refine s_idiv hP t121_53 n0 ?_
        refine s_iadd hP t121_54 ?_
        rw [show y + dy * nI (i + 1) / nI (ml_N (x, y, z, dx, dy, dz)) = ml_y (x, y, z, dx, dy, dz) (i + 1) from by rw [mg_q n0, ← hf2]; rfl]
        refine s_istore_11 hP t121_55 (by exact rfl) ?_
        refine s_iload_n hP t121_57 rfl ?_
        refine s_iload hP t121_58 rfl ?_
        refine s_iload hP t121_60 rfl ?_
        refine s_imul hP t121_62 ?_
        refine s_iload hP t121_63 rfl ?_
        refine s_idiv hP t121_65 n0 ?_
        refine s_iadd hP t121_66 ?_
        rw [show z + dz * nI (i + 1) / nI (ml_N (x, y, z, dx, dy, dz)) = ml_z (x, y, z, dx, dy, dz) (i + 1) from by rw [mg_q n0, ← hf2]; rfl]
        obtain ⟨-, -, hi3⟩ := hin
        obtain ⟨X, Y, Z, hX, hY, hZ, eX, eY, eZ⟩ := hi3 (i + 1) (by omega) e30
        have eat : ml_at (x, y, z, dx, dy, dz) (i + 1) = (X, Y, Z) := by rw [ml_at, eX, eY, eZ, nI_clamp (by omega), nI_clamp (by omega), nI_clamp (by omega)]
        rw [eX, eY, eZ]
        refine s_istore_12 hP t121_67 (by exact rfl) ?_
        refine s_aload_n hP t121_69 rfl ?_
        refine s_getfield hP t121_70 rfl rfl ?_
        refine s_bipush (v := 108) hP t121_73 (by decide) ?_
        refine s_icmp_ne hP t121_75 (fun q75 => ?_) (fun q75 => ?_)
        · refine s_aload_n hP t121_113 rfl ?_
          refine s_getfield hP t121_114 rfl rfl ?_
          refine s_bipush (v := 99) hP t121_117 (by decide) ?_
          refine s_icmp_ne hP t121_119 (fun q119 => ?_) (fun q119 => ?_)
          · exact absurd hh q119
          · refine s_aload_n hP t121_122 rfl ?_
            refine s_iload hP t121_123 rfl ?_
            refine s_iload hP t121_125 rfl ?_
            refine s_iload hP t121_127 rfl ?_
            refine s_iload hP t121_129 rfl ?_
            refine s_zne hP t121_131 (fun q131 => ?_) (fun q131 => ?_)
            · refine s_iconst (v := 0) hP t121_138 (by decide) ?_
              refine s_iconst (v := 1) hP t121_139 (by decide) ?_
              refine s_invokevirtual (bc' := 0) (bs' := 0) hP t121_140 rfl rfl rfl rfl rfl ?_
              have e1 : (0 : Int32) = am_b (!cut) := by rw [show cut = true from q131]; rfl
              have k9 : ∀ K9 : am_K, am_Run (d + 2) 117 [.ref 39, .int (nI X), .int (nI Y), .int (nI Z), .int (am_b (!cut)), .int (am_b true)] (am_W ha hz a1 s1 t1 a2 s2 t2 al ma ms mt ol od) K9 → am_Run (d + 2) 117 [.ref 39, .int (nI X), .int (nI Y), .int (nI Z), .int 0, .int 1] (am_W ha hz a1 s1 t1 a2 s2 t2 al ma ms mt ol od) K9 := fun K9 h9 => by rw [← e1] at h9; exact h9
              refine k9 _ ?_
              refine sp117 (S := S) (T := T) (bs := !cut) (bf := true) hS hT hc hc9 hs hr hsh hR hX hY hZ ?_
              refine s_if_le hP t121_143 (fun q143 => ?_) (fun q143 => ?_)
              · refine s_aload_n hP t121_148 rfl ?_
                refine s_getfield hP t121_149 rfl rfl ?_
                refine s_bipush (v := 100) hP t121_152 (by decide) ?_
                refine s_icmp_ne hP t121_154 (fun q154 => ?_) (fun q154 => ?_)
                · refine s_iinc_9 (v := 1) hP t121_172 (by decide) (by exact rfl) ?_
                  refine s_goto hP t121_175 ?_
                  rw [nI_1]
                  have e143 := (mg_cntp (by decide)).mp q143
                  refine hm _ _ _ _ _ _ _ (by repeat (first | exact am_le_nil | apply am_le_cons | apply am_le_none)) (ih (i + 1) (by omega) (by omega) (fun j h5 h6 => by
                    by_cases h7 : j = i + 1
                    · rw [h7, eat]
                      rintro ⟨q, h8, h9, h10⟩
                      have := e143 q h8
                      rw [h9, Bool.true_and] at this
                      exact absurd h10 (by rw [ml_re]; simp only [this]; decide)
                    · exact hi j h5 (by omega)))
                · exact absurd q154 (by rw [hh]; decide)
              · refine s_iconst (v := 0) hP t121_146 (by decide) ?_
                refine s_ireturn hP t121_147 rfl rfl ?_
                by_cases hx9 : ∀ q, q < 1152 → (((!cut && S q) || (true && T q)) && mr_re s R X Y Z q) = false
                · exact absurd ((mg_cntp (by decide)).mpr hx9) q143
                · apply kf
                  refine ⟨i + 1, by omega, e30, ?_⟩
                  rw [eat]
                  apply Classical.byContradiction
                  intro hno
                  apply hx9
                  intro q hq
                  cases h9 : ((!cut && S q) || (true && T q))
                  · exact Bool.false_and _
                  · rw [Bool.true_and]
                    cases h10 : mr_re s R X Y Z q
                    · rfl
                    · exact absurd ⟨q, hq, h9, h10⟩ hno
            · refine s_iconst (v := 1) hP t121_134 (by decide) ?_
              refine s_goto hP t121_135 ?_
              refine s_iconst (v := 1) hP t121_139 (by decide) ?_
              refine s_invokevirtual (bc' := 0) (bs' := 0) hP t121_140 rfl rfl rfl rfl rfl ?_
              have e1 : (1 : Int32) = am_b (!cut) := by rw [show cut = false from q131]; rfl
              have k9 : ∀ K9 : am_K, am_Run (d + 2) 117 [.ref 39, .int (nI X), .int (nI Y), .int (nI Z), .int (am_b (!cut)), .int (am_b true)] (am_W ha hz a1 s1 t1 a2 s2 t2 al ma ms mt ol od) K9 → am_Run (d + 2) 117 [.ref 39, .int (nI X), .int (nI Y), .int (nI Z), .int 1, .int 1] (am_W ha hz a1 s1 t1 a2 s2 t2 al ma ms mt ol od) K9 := fun K9 h9 => by rw [← e1] at h9; exact h9
              refine k9 _ ?_
              refine sp117 (S := S) (T := T) (bs := !cut) (bf := true) hS hT hc hc9 hs hr hsh hR hX hY hZ ?_
              refine s_if_le hP t121_143 (fun q143 => ?_) (fun q143 => ?_)
              · refine s_aload_n hP t121_148 rfl ?_
                refine s_getfield hP t121_149 rfl rfl ?_
                refine s_bipush (v := 100) hP t121_152 (by decide) ?_
                refine s_icmp_ne hP t121_154 (fun q154 => ?_) (fun q154 => ?_)
                · refine s_iinc_9 (v := 1) hP t121_172 (by decide) (by exact rfl) ?_
                  refine s_goto hP t121_175 ?_
                  rw [nI_1]
                  have e143 := (mg_cntp (by decide)).mp q143
                  refine hm _ _ _ _ _ _ _ (by repeat (first | exact am_le_nil | apply am_le_cons | apply am_le_none)) (ih (i + 1) (by omega) (by omega) (fun j h5 h6 => by
                    by_cases h7 : j = i + 1
                    · rw [h7, eat]
                      rintro ⟨q, h8, h9, h10⟩
                      have := e143 q h8
                      rw [h9, Bool.true_and] at this
                      exact absurd h10 (by rw [ml_re]; simp only [this]; decide)
                    · exact hi j h5 (by omega)))
                · exact absurd q154 (by rw [hh]; decide)
              · refine s_iconst (v := 0) hP t121_146 (by decide) ?_
                refine s_ireturn hP t121_147 rfl rfl ?_
                by_cases hx9 : ∀ q, q < 1152 → (((!cut && S q) || (true && T q)) && mr_re s R X Y Z q) = false
                · exact absurd ((mg_cntp (by decide)).mpr hx9) q143
                · apply kf
                  refine ⟨i + 1, by omega, e30, ?_⟩
                  rw [eat]
                  apply Classical.byContradiction
                  intro hno
                  apply hx9
                  intro q hq
                  cases h9 : ((!cut && S q) || (true && T q))
                  · exact Bool.false_and _
                  · rw [Bool.true_and]
                    cases h10 : mr_re s R X Y Z q
                    · rfl
                    · exact absurd ⟨q, hq, h9, h10⟩ hno
        · exact absurd q75 (by rw [hh]; decide)
  refine s_iload hP t121_0 rfl ?_
  refine s_invokestatic (bc' := 0) (bs' := 0) hP t121_2 rfl rfl rfl rfl rfl ?_
  refine sp119 ?_
  refine s_iload hP t121_5 rfl ?_
  refine s_invokestatic (bc' := 0) (bs' := 0) hP t121_7 rfl rfl rfl rfl rfl ?_
  refine sp119 ?_
  refine s_iload hP t121_10 rfl ?_
  refine s_invokestatic (bc' := 0) (bs' := 0) hP t121_12 rfl rfl rfl rfl rfl ?_
  refine sp119 ?_
  refine s_invokestatic (bc' := 0) (bs' := 0) hP t121_15 rfl rfl rfl rfl rfl ?_
  refine sp120 ?_
  refine s_invokestatic (bc' := 0) (bs' := 0) hP t121_18 rfl rfl rfl rfl rfl ?_
  refine sp120 ?_
  rw [show mi_max (mi_abs dx) (mi_max (mi_abs dy) (mi_abs dz)) = nI (ml_N (x, y, z, dx, dy, dz)) from hf1]
  refine s_istore_8 hP t121_21 (by exact rfl) ?_
  refine s_iconst (v := 1) hP t121_23 (by decide) ?_
  refine s_istore_9 hP t121_24 (by exact rfl) ?_
  exact loop ((ml_N (x, y, z, dx, dy, dz)) + 1) 0 (by omega) (by omega) (fun j h5 h6 => by omega)
set_option maxHeartbeats 2000000 in
theorem sp121d {d : Nat} {K : am_K} {ha : Nat → Nat → Int32} {hz : Int32} {a1 : Nat → Nat → Int32} {s1 : Nat → Int32} {t1 : UInt32} {a2 : Nat → Nat → Int32} {s2 : Nat → Int32} {t2 : UInt32} {al : Int32} {ma : Nat → Nat → Int32} {ms : Nat → Int32} {mt : UInt32} {ol : Nat → Int64} {od : Nat → UInt64} {x y z dx dy dz : Int32} {cut : Bool} (hh : ms 26 = 100) (hf : mg_few (x, y, z, dx, dy, dz)) (hB : mg_B ma) {c s R : Nat} (hreq : cut = true → ms 19 = nI c ∧ c < 12 ∧ ma 0 c = nI s ∧ ma 2 c = nI R ∧ (s = 101 ∨ s = 98 ∨ s = 118) ∧ R < 4) (hin : ml_inn (x, y, z, dx, dy, dz)) (hv1 : vf_n32 (FP.fdiv FP.fconst1 (if cut = true then FP.i2f (ms 20) else 1120403456))) (hv2 : vf_n32 (FP.fmul (FP.i2f (ml_n (x, y, z, dx, dy, dz))) (FP.fdiv FP.fconst1 (if cut = true then FP.i2f (ms 20) else 1120403456)))) (hv3 : vf_n32 (FP.fadd mt (FP.fmul (FP.i2f (ml_n (x, y, z, dx, dy, dz))) (FP.fdiv FP.fconst1 (if cut = true then FP.i2f (ms 20) else 1120403456))))) (k : K (some (.int 1)) (am_W ha hz a1 s1 t1 a2 s2 t2 al (mg_to (cond cut (mg_tk c s R ma (ml_pl (x, y, z, dx, dy, dz) (ml_N (x, y, z, dx, dy, dz)))) ma) x y z dx dy dz) ms (FP.fadd mt (FP.fmul (FP.i2f (ml_n (x, y, z, dx, dy, dz))) (FP.fdiv FP.fconst1 (if cut = true then FP.i2f (ms 20) else 1120403456)))) ol od)) : am_Run (d + 3) 121 [.ref 39, .int x, .int y, .int z, .int dx, .int dy, .int dz, .int (am_b cut)] (am_W ha hz a1 s1 t1 a2 s2 t2 al ma ms mt ol od) K := by
  refine ⟨rfl, fun P hm hP => ?_⟩
  show P 0 [some (.ref 39), some (.int x), some (.int y), some (.int z), some (.int dx), some (.int dy), some (.int dz), some (.int (am_b cut)), none, none, none, none, none] [] _ 0 0
  obtain ⟨hf1, hf2, hf3⟩ := hf
  have loop : ∀ (n i : Nat), i ≤ (ml_N (x, y, z, dx, dy, dz)) → (ml_N (x, y, z, dx, dy, dz)) + 1 ≤ i + n → P 26 [some (.ref 39), some (.int x), some (.int y), some (.int z), some (.int dx), some (.int dy), some (.int dz), some (.int (am_b cut)), some (.int (nI (ml_N (x, y, z, dx, dy, dz)))), some (.int (nI (i + 1))), none, none, none] [] (am_W ha hz a1 s1 t1 a2 s2 t2 al (cond cut (mg_tk c s R ma (ml_pl (x, y, z, dx, dy, dz) i)) ma) ms mt ol od) 0 0 := by
    intro n
    induction n with
    | zero => intro i h3 h4; omega
    | succ n ih =>
      intro i h3 h4
      refine s_iload hP t121_26 rfl ?_
      refine s_iload hP t121_28 rfl ?_
      refine s_icmp_gt hP t121_30 (fun q30 => ?_) (fun q30 => ?_)
      · have e30 : (ml_N (x, y, z, dx, dy, dz)) < i + 1 := Nat.lt_of_not_le (fun q => Int32.not_le.mpr q30 ((nI_leI (by omega) (by omega)).mpr q))
        refine s_aload_n hP t121_178 rfl ?_
        refine s_getfield hP t121_179 rfl rfl ?_
        refine s_bipush (v := 100) hP t121_182 (by decide) ?_
        refine s_icmp_ne hP t121_184 (fun q184 => ?_) (fun q184 => ?_)
        · exact absurd hh q184
        · refine s_aload_n hP t121_187 rfl ?_
          refine s_dup hP t121_188 rfl ?_
          refine s_getfield hP t121_189 rfl rfl ?_
          refine s_iload hP t121_192 rfl ?_
          refine s_i2f hP t121_194 ?_
          refine s_fconst1 hP t121_195 ?_
          refine s_iload hP t121_196 rfl ?_
          refine s_zeq hP t121_198 (fun q198 => ?_) (fun q198 => ?_)
          · have efd : (FP.fdiv FP.fconst1 (if cut = true then FP.i2f (ms 20) else 1120403456)) = FP.fdiv FP.fconst1 1120403456 := by rw [if_neg (by rw [q198]; decide)]
            rw [efd] at hv1
            rw [efd, show ml_n (x, y, z, dx, dy, dz) = nI (ml_N (x, y, z, dx, dy, dz)) from hf2] at k hv2 hv3
            refine s_ldcf (v := 1120403456) hP t121_209 rfl ?_
            refine s_fdiv hP t121_211 hv1 ?_
            refine s_fmul hP t121_212 hv2 ?_
            refine s_fadd hP t121_213 hv3 ?_
            refine s_putfield hP t121_214 rfl rfl rfl rfl ?_
            refine s_aload_n hP t121_217 rfl ?_
            refine s_getfield hP t121_218 rfl rfl ?_
            refine s_iconst (v := 0) hP t121_221 (by decide) ?_
            refine s_iload_n hP t121_222 rfl ?_
            refine s_iload hP t121_223 rfl ?_
            refine s_iadd hP t121_225 ?_
            refine s_iastore hP t121_226 rfl (vp_in_nI (n := 0) (by decide) (by decide)) ?_
            refine s_aload_n hP t121_227 rfl ?_
            refine s_getfield hP t121_228 rfl rfl ?_
            refine s_iconst (v := 1) hP t121_231 (by decide) ?_
            refine s_iload_n hP t121_232 rfl ?_
            refine s_iload hP t121_233 rfl ?_
            refine s_iadd hP t121_235 ?_
            refine s_iastore hP t121_236 rfl (vp_in_nI (n := 1) (by decide) (by decide)) ?_
            refine s_aload_n hP t121_237 rfl ?_
            refine s_getfield hP t121_238 rfl rfl ?_
            refine s_iconst (v := 2) hP t121_241 (by decide) ?_
            refine s_iload_n hP t121_242 rfl ?_
            refine s_iload hP t121_243 rfl ?_
            refine s_iadd hP t121_245 ?_
            refine s_iastore hP t121_246 rfl (vp_in_nI (n := 2) (by decide) (by decide)) ?_
            refine s_iconst (v := 1) hP t121_247 (by decide) ?_
            refine s_ireturn hP t121_248 rfl rfl ?_
            obtain rfl : i = (ml_N (x, y, z, dx, dy, dz)) := by omega
            have k9 := k
            exact k9
          · have efd : (FP.fdiv FP.fconst1 (if cut = true then FP.i2f (ms 20) else 1120403456)) = FP.fdiv FP.fconst1 (FP.i2f (ms 20)) := by rw [if_pos q198]
            rw [efd] at hv1
            rw [efd, show ml_n (x, y, z, dx, dy, dz) = nI (ml_N (x, y, z, dx, dy, dz)) from hf2] at k hv2 hv3
            refine s_aload_n hP t121_201 rfl ?_
            refine s_getfield hP t121_202 rfl rfl ?_
            refine s_i2f hP t121_205 ?_
            refine s_goto hP t121_206 ?_
            refine s_fdiv hP t121_211 hv1 ?_
            refine s_fmul hP t121_212 hv2 ?_
            refine s_fadd hP t121_213 hv3 ?_
            refine s_putfield hP t121_214 rfl rfl rfl rfl ?_
            refine s_aload_n hP t121_217 rfl ?_
            refine s_getfield hP t121_218 rfl rfl ?_
            refine s_iconst (v := 0) hP t121_221 (by decide) ?_
            refine s_iload_n hP t121_222 rfl ?_
            refine s_iload hP t121_223 rfl ?_
            refine s_iadd hP t121_225 ?_
            refine s_iastore hP t121_226 rfl (vp_in_nI (n := 0) (by decide) (by decide)) ?_
            refine s_aload_n hP t121_227 rfl ?_
            refine s_getfield hP t121_228 rfl rfl ?_
            refine s_iconst (v := 1) hP t121_231 (by decide) ?_
            refine s_iload_n hP t121_232 rfl ?_
            refine s_iload hP t121_233 rfl ?_
            refine s_iadd hP t121_235 ?_
            refine s_iastore hP t121_236 rfl (vp_in_nI (n := 1) (by decide) (by decide)) ?_
            refine s_aload_n hP t121_237 rfl ?_
            refine s_getfield hP t121_238 rfl rfl ?_
            refine s_iconst (v := 2) hP t121_241 (by decide) ?_
            refine s_iload_n hP t121_242 rfl ?_
            refine s_iload hP t121_243 rfl ?_
            refine s_iadd hP t121_245 ?_
            refine s_iastore hP t121_246 rfl (vp_in_nI (n := 2) (by decide) (by decide)) ?_
            refine s_iconst (v := 1) hP t121_247 (by decide) ?_
            refine s_ireturn hP t121_248 rfl rfl ?_
            obtain rfl : i = (ml_N (x, y, z, dx, dy, dz)) := by omega
            have k9 := k
            exact k9
      · have e30 : i + 1 ≤ (ml_N (x, y, z, dx, dy, dz)) := (nI_leI (by omega) (by omega)).mp (Int32.not_lt.mp q30)
        have n0 := mg_n0 (by omega) e30 hf3
        refine s_iload_n hP t121_33 rfl ?_
        refine s_iload hP t121_34 rfl ?_
        refine s_iload hP t121_36 rfl ?_
        refine s_imul hP t121_38 ?_
        refine s_iload hP t121_39 rfl ?_
        refine s_idiv hP t121_41 n0 ?_
        refine s_iadd hP t121_42 ?_
        rw [show x + dx * nI (i + 1) / nI (ml_N (x, y, z, dx, dy, dz)) = ml_x (x, y, z, dx, dy, dz) (i + 1) from by rw [mg_q n0, ← hf2]; rfl]
        refine s_istore_10 hP t121_43 (by exact rfl) ?_
        refine s_iload_n hP t121_45 rfl ?_
        refine s_iload hP t121_46 rfl ?_
        refine s_iload hP t121_48 rfl ?_
        refine s_imul hP t121_50 ?_
        refine s_iload hP t121_51 rfl ?_
        refine s_idiv hP t121_53 n0 ?_
        refine s_iadd hP t121_54 ?_
        rw [show y + dy * nI (i + 1) / nI (ml_N (x, y, z, dx, dy, dz)) = ml_y (x, y, z, dx, dy, dz) (i + 1) from by rw [mg_q n0, ← hf2]; rfl]
        refine s_istore_11 hP t121_55 (by exact rfl) ?_
        refine s_iload_n hP t121_57 rfl ?_
        refine s_iload hP t121_58 rfl ?_
        refine s_iload hP t121_60 rfl ?_
        refine s_imul hP t121_62 ?_
        refine s_iload hP t121_63 rfl ?_
        refine s_idiv hP t121_65 n0 ?_
        refine s_iadd hP t121_66 ?_
        rw [show z + dz * nI (i + 1) / nI (ml_N (x, y, z, dx, dy, dz)) = ml_z (x, y, z, dx, dy, dz) (i + 1) from by rw [mg_q n0, ← hf2]; rfl]
        obtain ⟨-, -, hi3⟩ := hin
        obtain ⟨X, Y, Z, hX, hY, hZ, eX, eY, eZ⟩ := hi3 (i + 1) (by omega) e30
        have eat : ml_at (x, y, z, dx, dy, dz) (i + 1) = (X, Y, Z) := by rw [ml_at, eX, eY, eZ, nI_clamp (by omega), nI_clamp (by omega), nI_clamp (by omega)]
        rw [eX, eY, eZ]
        refine s_istore_12 hP t121_67 (by exact rfl) ?_
        refine s_aload_n hP t121_69 rfl ?_
        refine s_getfield hP t121_70 rfl rfl ?_
        refine s_bipush (v := 108) hP t121_73 (by decide) ?_
        refine s_icmp_ne hP t121_75 (fun q75 => ?_) (fun q75 => ?_)
        · refine s_aload_n hP t121_113 rfl ?_
          refine s_getfield hP t121_114 rfl rfl ?_
          refine s_bipush (v := 99) hP t121_117 (by decide) ?_
          refine s_icmp_ne hP t121_119 (fun q119 => ?_) (fun q119 => ?_)
          · refine s_aload_n hP t121_148 rfl ?_
            refine s_getfield hP t121_149 rfl rfl ?_
            refine s_bipush (v := 100) hP t121_152 (by decide) ?_
            refine s_icmp_ne hP t121_154 (fun q154 => ?_) (fun q154 => ?_)
            · exact absurd hh q154
            · refine s_iload hP t121_157 rfl ?_
              refine s_zeq hP t121_159 (fun q159 => ?_) (fun q159 => ?_)
              · refine s_iinc_9 (v := 1) hP t121_172 (by decide) (by exact rfl) ?_
                refine s_goto hP t121_175 ?_
                have h9 := ih (i + 1) (by omega) (by omega)
                rw [q159, cond_false] at h9 ⊢
                rw [nI_1]
                refine hm _ _ _ _ _ _ _ (by repeat (first | exact am_le_nil | apply am_le_cons | apply am_le_none)) (h9)
              · refine s_aload_n hP t121_162 rfl ?_
                refine s_iload hP t121_163 rfl ?_
                refine s_iload hP t121_165 rfl ?_
                refine s_iload hP t121_167 rfl ?_
                refine s_invokevirtual (bc' := 0) (bs' := 0) hP t121_169 rfl rfl rfl rfl rfl ?_
                obtain ⟨hc, hc9, hs, hr, hsh, hR⟩ := hreq q159
                rw [q159, cond_true]
                refine sp118 (ma := (mg_tk c s R ma (ml_pl (x, y, z, dx, dy, dz) i))) (S := mg_S (mg_tk c s R ma (ml_pl (x, y, z, dx, dy, dz) i))) (mg_B_all _ _ hB) hc hc9 (by rw [mg_tk_i (by decide) (by decide)]; exact hs) (by rw [mg_tk_i (by decide) (by decide)]; exact hr) hsh hR hX hY hZ ?_
                have h9 := ih (i + 1) (by omega) (by omega)
                rw [q159, cond_true, ml_pl, mg_tk_app, eat] at h9
                refine s_iinc_9 (v := 1) hP t121_172 (by decide) (by exact rfl) ?_
                refine s_goto hP t121_175 ?_
                rw [nI_1]
                refine hm _ _ _ _ _ _ _ (by repeat (first | exact am_le_nil | apply am_le_cons | apply am_le_none)) (h9)
          · exact absurd q119 (by rw [hh]; decide)
        · exact absurd q75 (by rw [hh]; decide)
  refine s_iload hP t121_0 rfl ?_
  refine s_invokestatic (bc' := 0) (bs' := 0) hP t121_2 rfl rfl rfl rfl rfl ?_
  refine sp119 ?_
  refine s_iload hP t121_5 rfl ?_
  refine s_invokestatic (bc' := 0) (bs' := 0) hP t121_7 rfl rfl rfl rfl rfl ?_
  refine sp119 ?_
  refine s_iload hP t121_10 rfl ?_
  refine s_invokestatic (bc' := 0) (bs' := 0) hP t121_12 rfl rfl rfl rfl rfl ?_
  refine sp119 ?_
  refine s_invokestatic (bc' := 0) (bs' := 0) hP t121_15 rfl rfl rfl rfl rfl ?_
  refine sp120 ?_
  refine s_invokestatic (bc' := 0) (bs' := 0) hP t121_18 rfl rfl rfl rfl rfl ?_
  refine sp120 ?_
  rw [show mi_max (mi_abs dx) (mi_max (mi_abs dy) (mi_abs dz)) = nI (ml_N (x, y, z, dx, dy, dz)) from hf1]
  refine s_istore_8 hP t121_21 (by exact rfl) ?_
  refine s_iconst (v := 1) hP t121_23 (by decide) ?_
  refine s_istore_9 hP t121_24 (by exact rfl) ?_
  have l9 := loop ((ml_N (x, y, z, dx, dy, dz)) + 1) 0 (by omega) (by omega)
  rw [show (cond cut (mg_tk c s R ma (ml_pl (x, y, z, dx, dy, dz) 0)) ma) = ma from by cases cut <;> rfl] at l9
  exact l9
set_option maxHeartbeats 2000000 in
theorem sp121c0 {d : Nat} {K : am_K} {ha : Nat → Nat → Int32} {hz : Int32} {a1 : Nat → Nat → Int32} {s1 : Nat → Int32} {t1 : UInt32} {a2 : Nat → Nat → Int32} {s2 : Nat → Int32} {t2 : UInt32} {al : Int32} {ma : Nat → Nat → Int32} {ms : Nat → Int32} {mt : UInt32} {ol : Nat → Int64} {od : Nat → UInt64} {x y z dx dy dz : Int32} {cut : Bool} (hh : ms 26 = 99) (hf : mg_few (x, y, z, dx, dy, dz)) (hin : ml_inn (x, y, z, dx, dy, dz)) (hc : ms 19 = -1) (k : K (some (.int 1)) (am_W ha hz a1 s1 t1 a2 s2 t2 al (mg_to ma x y z dx dy dz) ms mt ol od)) : am_Run (d + 3) 121 [.ref 39, .int x, .int y, .int z, .int dx, .int dy, .int dz, .int (am_b cut)] (am_W ha hz a1 s1 t1 a2 s2 t2 al ma ms mt ol od) K := by
  refine ⟨rfl, fun P hm hP => ?_⟩
  show P 0 [some (.ref 39), some (.int x), some (.int y), some (.int z), some (.int dx), some (.int dy), some (.int dz), some (.int (am_b cut)), none, none, none, none, none] [] _ 0 0
  obtain ⟨hf1, hf2, hf3⟩ := hf
  have loop : ∀ (n i : Nat), i ≤ (ml_N (x, y, z, dx, dy, dz)) → (ml_N (x, y, z, dx, dy, dz)) + 1 ≤ i + n → P 26 [some (.ref 39), some (.int x), some (.int y), some (.int z), some (.int dx), some (.int dy), some (.int dz), some (.int (am_b cut)), some (.int (nI (ml_N (x, y, z, dx, dy, dz)))), some (.int (nI (i + 1))), none, none, none] [] (am_W ha hz a1 s1 t1 a2 s2 t2 al ma ms mt ol od) 0 0 := by
    intro n
    induction n with
    | zero => intro i h3 h4; omega
    | succ n ih =>
      intro i h3 h4
      refine s_iload hP t121_26 rfl ?_
      refine s_iload hP t121_28 rfl ?_
      refine s_icmp_gt hP t121_30 (fun q30 => ?_) (fun q30 => ?_)
      · have e30 : (ml_N (x, y, z, dx, dy, dz)) < i + 1 := Nat.lt_of_not_le (fun q => Int32.not_le.mpr q30 ((nI_leI (by omega) (by omega)).mpr q))
        refine s_aload_n hP t121_178 rfl ?_
        refine s_getfield hP t121_179 rfl rfl ?_
        refine s_bipush (v := 100) hP t121_182 (by decide) ?_
        refine s_icmp_ne hP t121_184 (fun q184 => ?_) (fun q184 => ?_)
        · refine s_aload_n hP t121_217 rfl ?_
          refine s_getfield hP t121_218 rfl rfl ?_
          refine s_iconst (v := 0) hP t121_221 (by decide) ?_
          refine s_iload_n hP t121_222 rfl ?_
          refine s_iload hP t121_223 rfl ?_
          refine s_iadd hP t121_225 ?_
          refine s_iastore hP t121_226 rfl (vp_in_nI (n := 0) (by decide) (by decide)) ?_
          refine s_aload_n hP t121_227 rfl ?_
          refine s_getfield hP t121_228 rfl rfl ?_
          refine s_iconst (v := 1) hP t121_231 (by decide) ?_
          refine s_iload_n hP t121_232 rfl ?_
          refine s_iload hP t121_233 rfl ?_
          refine s_iadd hP t121_235 ?_
          refine s_iastore hP t121_236 rfl (vp_in_nI (n := 1) (by decide) (by decide)) ?_
          refine s_aload_n hP t121_237 rfl ?_
          refine s_getfield hP t121_238 rfl rfl ?_
          refine s_iconst (v := 2) hP t121_241 (by decide) ?_
          refine s_iload_n hP t121_242 rfl ?_
          refine s_iload hP t121_243 rfl ?_
          refine s_iadd hP t121_245 ?_
          refine s_iastore hP t121_246 rfl (vp_in_nI (n := 2) (by decide) (by decide)) ?_
          refine s_iconst (v := 1) hP t121_247 (by decide) ?_
          refine s_ireturn hP t121_248 rfl rfl ?_
          exact k
        · exact absurd q184 (by rw [hh]; decide)
      · have e30 : i + 1 ≤ (ml_N (x, y, z, dx, dy, dz)) := (nI_leI (by omega) (by omega)).mp (Int32.not_lt.mp q30)
        have n0 := mg_n0 (by omega) e30 hf3
        refine s_iload_n hP t121_33 rfl ?_
        refine s_iload hP t121_34 rfl ?_
        refine s_iload hP t121_36 rfl ?_
        refine s_imul hP t121_38 ?_
        refine s_iload hP t121_39 rfl ?_
        refine s_idiv hP t121_41 n0 ?_
        refine s_iadd hP t121_42 ?_
        rw [show x + dx * nI (i + 1) / nI (ml_N (x, y, z, dx, dy, dz)) = ml_x (x, y, z, dx, dy, dz) (i + 1) from by rw [mg_q n0, ← hf2]; rfl]
        refine s_istore_10 hP t121_43 (by exact rfl) ?_
        refine s_iload_n hP t121_45 rfl ?_
        refine s_iload hP t121_46 rfl ?_
        refine s_iload hP t121_48 rfl ?_
        refine s_imul hP t121_50 ?_
        refine s_iload hP t121_51 rfl ?_
        refine s_idiv hP t121_53 n0 ?_
        refine s_iadd hP t121_54 ?_
        rw [show y + dy * nI (i + 1) / nI (ml_N (x, y, z, dx, dy, dz)) = ml_y (x, y, z, dx, dy, dz) (i + 1) from by rw [mg_q n0, ← hf2]; rfl]
        refine s_istore_11 hP t121_55 (by exact rfl) ?_
        refine s_iload_n hP t121_57 rfl ?_
        refine s_iload hP t121_58 rfl ?_
        refine s_iload hP t121_60 rfl ?_
        refine s_imul hP t121_62 ?_
        refine s_iload hP t121_63 rfl ?_
        refine s_idiv hP t121_65 n0 ?_
        refine s_iadd hP t121_66 ?_
        rw [show z + dz * nI (i + 1) / nI (ml_N (x, y, z, dx, dy, dz)) = ml_z (x, y, z, dx, dy, dz) (i + 1) from by rw [mg_q n0, ← hf2]; rfl]
        obtain ⟨-, -, hi3⟩ := hin
        obtain ⟨X, Y, Z, hX, hY, hZ, eX, eY, eZ⟩ := hi3 (i + 1) (by omega) e30
        have eat : ml_at (x, y, z, dx, dy, dz) (i + 1) = (X, Y, Z) := by rw [ml_at, eX, eY, eZ, nI_clamp (by omega), nI_clamp (by omega), nI_clamp (by omega)]
        rw [eX, eY, eZ]
        refine s_istore_12 hP t121_67 (by exact rfl) ?_
        refine s_aload_n hP t121_69 rfl ?_
        refine s_getfield hP t121_70 rfl rfl ?_
        refine s_bipush (v := 108) hP t121_73 (by decide) ?_
        refine s_icmp_ne hP t121_75 (fun q75 => ?_) (fun q75 => ?_)
        · refine s_aload_n hP t121_113 rfl ?_
          refine s_getfield hP t121_114 rfl rfl ?_
          refine s_bipush (v := 99) hP t121_117 (by decide) ?_
          refine s_icmp_ne hP t121_119 (fun q119 => ?_) (fun q119 => ?_)
          · exact absurd hh q119
          · refine s_aload_n hP t121_122 rfl ?_
            refine s_iload hP t121_123 rfl ?_
            refine s_iload hP t121_125 rfl ?_
            refine s_iload hP t121_127 rfl ?_
            refine s_iload hP t121_129 rfl ?_
            refine s_zne hP t121_131 (fun q131 => ?_) (fun q131 => ?_)
            · refine s_iconst (v := 0) hP t121_138 (by decide) ?_
              refine s_iconst (v := 1) hP t121_139 (by decide) ?_
              refine s_invokevirtual (bc' := 0) (bs' := 0) hP t121_140 rfl rfl rfl rfl rfl ?_
              refine sp117n (bs := false) (bf := true) hc ?_
              refine s_if_le hP t121_143 (fun q143 => ?_) (fun q143 => ?_)
              · refine s_aload_n hP t121_148 rfl ?_
                refine s_getfield hP t121_149 rfl rfl ?_
                refine s_bipush (v := 100) hP t121_152 (by decide) ?_
                refine s_icmp_ne hP t121_154 (fun q154 => ?_) (fun q154 => ?_)
                · refine s_iinc_9 (v := 1) hP t121_172 (by decide) (by exact rfl) ?_
                  refine s_goto hP t121_175 ?_
                  rw [nI_1]
                  refine hm _ _ _ _ _ _ _ (by repeat (first | exact am_le_nil | apply am_le_cons | apply am_le_none)) (ih (i + 1) (by omega) (by omega))
                · exact absurd q154 (by rw [hh]; decide)
              · exact absurd (Int32.le_refl _) q143
            · refine s_iconst (v := 1) hP t121_134 (by decide) ?_
              refine s_goto hP t121_135 ?_
              refine s_iconst (v := 1) hP t121_139 (by decide) ?_
              refine s_invokevirtual (bc' := 0) (bs' := 0) hP t121_140 rfl rfl rfl rfl rfl ?_
              refine sp117n (bs := true) (bf := true) hc ?_
              refine s_if_le hP t121_143 (fun q143 => ?_) (fun q143 => ?_)
              · refine s_aload_n hP t121_148 rfl ?_
                refine s_getfield hP t121_149 rfl rfl ?_
                refine s_bipush (v := 100) hP t121_152 (by decide) ?_
                refine s_icmp_ne hP t121_154 (fun q154 => ?_) (fun q154 => ?_)
                · refine s_iinc_9 (v := 1) hP t121_172 (by decide) (by exact rfl) ?_
                  refine s_goto hP t121_175 ?_
                  rw [nI_1]
                  refine hm _ _ _ _ _ _ _ (by repeat (first | exact am_le_nil | apply am_le_cons | apply am_le_none)) (ih (i + 1) (by omega) (by omega))
                · exact absurd q154 (by rw [hh]; decide)
              · exact absurd (Int32.le_refl _) q143
        · exact absurd q75 (by rw [hh]; decide)
  refine s_iload hP t121_0 rfl ?_
  refine s_invokestatic (bc' := 0) (bs' := 0) hP t121_2 rfl rfl rfl rfl rfl ?_
  refine sp119 ?_
  refine s_iload hP t121_5 rfl ?_
  refine s_invokestatic (bc' := 0) (bs' := 0) hP t121_7 rfl rfl rfl rfl rfl ?_
  refine sp119 ?_
  refine s_iload hP t121_10 rfl ?_
  refine s_invokestatic (bc' := 0) (bs' := 0) hP t121_12 rfl rfl rfl rfl rfl ?_
  refine sp119 ?_
  refine s_invokestatic (bc' := 0) (bs' := 0) hP t121_15 rfl rfl rfl rfl rfl ?_
  refine sp120 ?_
  refine s_invokestatic (bc' := 0) (bs' := 0) hP t121_18 rfl rfl rfl rfl rfl ?_
  refine sp120 ?_
  rw [show mi_max (mi_abs dx) (mi_max (mi_abs dy) (mi_abs dz)) = nI (ml_N (x, y, z, dx, dy, dz)) from hf1]
  refine s_istore_8 hP t121_21 (by exact rfl) ?_
  refine s_iconst (v := 1) hP t121_23 (by decide) ?_
  refine s_istore_9 hP t121_24 (by exact rfl) ?_
  exact loop ((ml_N (x, y, z, dx, dy, dz)) + 1) 0 (by omega) (by omega)
