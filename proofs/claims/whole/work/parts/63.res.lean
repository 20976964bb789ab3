/-! WHAT THE MODEL'S MOVES COME TO, in the words of the class's plan. -/
theorem mr_cnt_cg {p q : Nat → Bool} : ∀ n, (∀ i, i < n → p i = q i) → mr_cnt n p = mr_cnt n q
  | 0, _ => rfl
  | n + 1, h => by rw [mr_cnt, mr_cnt, mr_cnt_cg n (fun i hi => h i (by omega)), h n (by omega)]
theorem ml_cut_cg {s R : Nat} : ∀ (l : List ml_P) {S S' : Nat → Bool}, (∀ q, q < 1152 → S q = S' q) → ∀ q, q < 1152 → ml_cut s R l S q = ml_cut s R l S' q
  | [], _, _, h => h
  | p :: r, _, _, h => ml_cut_cg r (fun q hq => by rw [h q hq])
theorem ml_cc_cg {s R : Nat} : ∀ (l : List ml_P) {S S' : Nat → Bool}, (∀ q, q < 1152 → S q = S' q) → ml_cc s R l S = ml_cc s R l S'
  | [], _, _, h => rfl
  | p :: r, _, _, h => by
    rw [ml_cc, ml_cc, mr_cnt_cg 1152 (fun q hq => by rw [h q hq]), ml_cc_cg r (fun q hq => by rw [h q hq])]
theorem mg_tk_S {c s R : Nat} : ∀ (l : List ml_P) {ma : Nat → Nat → Int32}, mg_B ma → ∀ q, q < 1152 → mg_S (mg_tk c s R ma l) q = ml_cut s R l (mg_S ma) q
  | [], _, _ => fun _ _ => rfl
  | p :: r, ma, hB => fun q hq => by
    rw [mg_tk, mg_tk_S r (mg_B_tk hB) q hq, ml_cut]
    refine ml_cut_cg r (fun q hq => ?_) q hq
    rw [mg_S_tk hB hq, ml_re]
    cases mg_S ma q <;> cases mr_re s R p.1 p.2.1 p.2.2 q <;> rfl
theorem mg_tk_4 {c s R : Nat} : ∀ (l : List ml_P) {ma : Nat → Nat → Int32}, mg_B ma → mg_tk c s R ma l 4 = upd (ma 4) c (ma 4 c + nI (ml_cc s R l (mg_S ma)))
  | [], ma, _ => by
    rw [mg_tk, ml_cc, show ma 4 c + nI 0 = ma 4 c from Int32.add_zero _]
    exact upd_self.symm
  | p :: r, ma, hB => by
    rw [mg_tk, mg_tk_4 r (mg_B_tk hB), mt_tk_4, upd_upd, show upd (ma 4) c (ma 4 c + nI (mr_cnt 1152 (fun q => mg_S ma q && mr_re s R p.1 p.2.1 p.2.2 q))) c = _ from pk_us, ml_cc, Int32.add_assoc, nI_add]
    congr 3
    refine congrArg (fun n => mr_cnt 1152 (fun q => mg_S ma q && mr_re s R p.1 p.2.1 p.2.2 q) + n) (ml_cc_cg r (fun q hq => ?_))
    rw [mg_S_tk hB hq, ml_re]
    cases mg_S ma q <;> cases mr_re s R p.1 p.2.1 p.2.2 q <;> rfl
theorem mg_res_t {h : Int32} {cut : Bool} {T : Nat → Bool} {c s R : Nat} {sl fd : Int32} (h9 : ¬ h = 100) : ∀ (es : List ml_L) (ma : Nat → Nat → Int32) (t : UInt32), (mg_res h cut T sl c s R fd es ma t).2.2 = t
  | [], ma, t => rfl
  | e :: r, ma, t => by
    rw [mg_res]
    split
    · rw [mg_res_t h9 r, mg_t, if_neg h9]
    · rfl
theorem mg_g_ne {h : Int32} {cut : Bool} {c s R i : Nat} {e : ml_L} {ma : Nat → Nat → Int32} (h9 : ¬ h = 100) (h12 : i ≠ 12) : mg_g h cut c s R e ma i = ma i := by
  rw [mg_g_m h12, mg_m, if_neg h9]
theorem mg_res_ne {h : Int32} {cut : Bool} {T : Nat → Bool} {c s R : Nat} {sl fd : Int32} {i : Nat} (h9 : ¬ h = 100) (h12 : i ≠ 12) : ∀ (es : List ml_L) (ma : Nat → Nat → Int32) (t : UInt32), (mg_res h cut T sl c s R fd es ma t).2.1 i = ma i
  | [], ma, t => rfl
  | e :: r, ma, t => by
    rw [mg_res]
    split
    · exact (mg_res_ne h9 h12 r _ _).trans (mg_g_ne h9 h12)
    · rfl
theorem mg_res_1 {h : Int32} {cut : Bool} {T : Nat → Bool} {c s R : Nat} {sl fd : Int32} (h9 : ¬ h = 100) : ∀ (es : List ml_L) (ma : Nat → Nat → Int32) (t : UInt32), (mg_res h cut T sl c s R fd es ma t).1 = true ↔ ∀ e ∈ es, mg_ok h cut T sl s R (mg_S ma) e
  | [], ma, t => ⟨fun _ e he => absurd he (List.not_mem_nil), fun _ => rfl⟩
  | e :: r, ma, t => by
    rw [mg_res]
    have hS : mg_S (mg_g h cut c s R e ma) = mg_S ma := by
      unfold mg_S
      rw [mg_g_ne h9 (by decide)]
    by_cases ho : mg_ok h cut T sl s R (mg_S ma) e
    · rw [if_pos (mx_d_iff.mpr ho), mg_res_1 h9 r, hS]
      constructor
      · intro q x hx
        rcases List.mem_cons.mp hx with rfl | hx
        · exact ho
        · exact q x hx
      · intro q x hx
        exact q x (List.mem_cons_of_mem _ hx)
    · rw [if_neg (fun q => ho (mx_d_iff.mp q))]
      exact ⟨fun q => (by cases q), fun q => absurd (q e List.mem_cons_self) ho⟩
theorem mg_ok_100 {cut : Bool} {T S : Nat → Bool} {sl : Int32} {s R : Nat} {e : ml_L} : mg_ok 100 cut T sl s R S e := ⟨fun q => absurd q (by decide), fun q => absurd q (by decide)⟩
theorem mg_res_100 {cut : Bool} {T : Nat → Bool} {c s R : Nat} {sl fd : Int32} : ∀ (es : List ml_L) (ma : Nat → Nat → Int32) (t : UInt32), (mg_res 100 cut T sl c s R fd es ma t).1 = true ∧ (mg_res 100 cut T sl c s R fd es ma t).2.2 = ml_tm (mg_f cut fd) es t
  | [], ma, t => ⟨rfl, rfl⟩
  | e :: r, ma, t => by
    rw [mg_res, if_pos (mx_d_iff.mpr mg_ok_100)]
    refine ⟨(mg_res_100 r _ _).1, (mg_res_100 r _ _).2.trans ?_⟩
    rw [mg_t, if_pos rfl, ml_tm]
theorem mg_res_100f {T : Nat → Bool} {c s R i : Nat} {sl fd : Int32} (h12 : i ≠ 12) : ∀ (es : List ml_L) (ma : Nat → Nat → Int32) (t : UInt32), (mg_res 100 false T sl c s R fd es ma t).2.1 i = ma i
  | [], ma, t => rfl
  | e :: r, ma, t => by
    rw [mg_res, if_pos (mx_d_iff.mpr mg_ok_100)]
    refine (mg_res_100f h12 r _ _).trans ?_
    rw [mg_g_m h12, mg_m, if_pos rfl, cond_false]
theorem mg_res_100t {T : Nat → Bool} {c s R : Nat} {sl fd : Int32} : ∀ (es : List ml_L) (ma : Nat → Nat → Int32) (t : UInt32), mg_B ma → mg_B (mg_res 100 true T sl c s R fd es ma t).2.1 ∧ (∀ q, q < 1152 → mg_S (mg_res 100 true T sl c s R fd es ma t).2.1 q = ml_cut s R (ml_all es) (mg_S ma) q) ∧ (mg_res 100 true T sl c s R fd es ma t).2.1 4 = upd (ma 4) c (ma 4 c + nI (ml_cc s R (ml_all es) (mg_S ma)))
  | [], ma, t, hB => by
    refine ⟨hB, fun _ _ => rfl, ?_⟩
    show ma 4 = upd (ma 4) c (ma 4 c + nI 0)
    rw [show ma 4 c + nI 0 = ma 4 c from Int32.add_zero _]
    exact upd_self.symm
  | e :: r, ma, t, hB => by
    rw [mg_res, if_pos (mx_d_iff.mpr mg_ok_100)]
    have e14 : mg_g 100 true c s R e ma 14 = mg_tk c s R ma (ml_pl e (ml_N e)) 14 := by rw [mg_g_m (by decide), mg_m, if_pos rfl, cond_true]
    have e4 : mg_g 100 true c s R e ma 4 = mg_tk c s R ma (ml_pl e (ml_N e)) 4 := by rw [mg_g_m (by decide), mg_m, if_pos rfl, cond_true]
    have hS : ∀ q, q < 1152 → mg_S (mg_g 100 true c s R e ma) q = ml_cut s R (ml_pl e (ml_N e)) (mg_S ma) q := by
      intro q hq
      rw [← mg_tk_S _ hB q hq]
      unfold mg_S
      rw [e14]
    obtain ⟨h1, h2, h3⟩ := mg_res_100t r (mg_g 100 true c s R e ma) (mg_t 100 true fd e t) (mg_B_g hB) (T := T) (c := c) (s := s) (R := R) (sl := sl) (fd := fd)
    refine ⟨h1, fun q hq => ?_, ?_⟩
    · rw [h2 q hq, ml_all, ml_cut_app]
      exact ml_cut_cg _ hS q hq
    · rw [h3, e4, mg_tk_4 _ hB, upd_upd, show upd (ma 4) c (ma 4 c + nI (ml_cc s R (ml_pl e (ml_N e)) (mg_S ma))) c = _ from pk_us, ml_all, ml_cc_app, Int32.add_assoc, nI_add, ml_cc_cg _ hS]
theorem mg_res_12 {h : Int32} {cut : Bool} {T : Nat → Bool} {c s R : Nat} {sl fd : Int32} {e : ml_L} : ∀ (es : List ml_L) (ma : Nat → Nat → Int32) (t : UInt32), es.getLast? = some e → (mg_res h cut T sl c s R fd es ma t).1 = true → (mg_res h cut T sl c s R fd es ma t).2.1 12 0 = e.1 + e.2.2.2.1 ∧ (mg_res h cut T sl c s R fd es ma t).2.1 12 1 = e.2.1 + e.2.2.2.2.1 ∧ (mg_res h cut T sl c s R fd es ma t).2.1 12 2 = e.2.2.1 + e.2.2.2.2.2
  | [], ma, t, hl, _ => by cases hl
  | [x], ma, t, hl, h1 => by
    obtain rfl : x = e := by
      rw [List.getLast?_singleton] at hl
      injection hl
    rw [mg_res] at h1 ⊢
    split at h1
    · rename_i q
      rw [if_pos q]
      exact ⟨mg_to0 (h := h) (cut := cut) (c := c) (s := s) (R := R) (ma := ma), mg_to1 (h := h) (cut := cut) (c := c) (s := s) (R := R) (ma := ma), mg_to2 (h := h) (cut := cut) (c := c) (s := s) (R := R) (ma := ma)⟩
    · cases h1
  | x :: y :: r, ma, t, hl, h1 => by
    rw [List.getLast?_cons_cons] at hl
    rw [mg_res] at h1 ⊢
    split at h1
    · rename_i q
      rw [if_pos q]
      exact mg_res_12 (y :: r) _ _ hl h1
    · cases h1
theorem ml_deps_last {A B : Nat} : ∀ n i, (ml_deps A B n i).getLast? = some A
  | 0, i => rfl
  | n + 1, i => by
    rw [ml_deps]
    split
    · rw [List.getLast?_cons, ml_deps_last n (i + 1)]; rfl
    · rfl
/-- where the last leg ends, in each kind of move -/
theorem ml_last {k a b c x y z u v w : Int32} (hk : k = 103 ∨ k = 108 ∨ k = 100 ∨ k = 112) (h112 : k = 112 → ∃ B, b = nI B ∧ B < 100) : ∃ e, (ml_legs k a b c x y z u v w).getLast? = some e ∧ e.1 + e.2.2.2.1 = ml_ex k a b x u ∧ e.2.1 + e.2.2.2.2.1 = ml_ey k b y v ∧ (if k = 100 ∨ k = 112 then z else e.2.2.1 + e.2.2.2.2.2) = ml_ez k c z w := by
  by_cases h1 : k = 103 ∨ k = 108
  · rw [ml_legs, ml_ex, ml_ey, ml_ez, if_pos h1, if_pos h1, if_pos h1, if_pos h1]
    refine ⟨_, rfl, ?_, ?_, ?_⟩
    · show x + (u + a - x) = u + a
      grind
    · show y + (v + b - y) = v + b
      grind
    · rw [if_neg (by rcases h1 with rfl | rfl <;> decide)]
      show z + (w + c - z) = w + c
      grind
  · by_cases h2 : k = 100
    · subst h2
      rw [show ml_legs 100 a b c x y z u v w = (ml_deps a.toNatClampNeg b.toNatClampNeg a.toNatClampNeg 1).map (ml_down x y z) by rw [ml_legs, if_neg (by decide), if_pos rfl], show ml_ex 100 a b x u = x by rw [ml_ex, if_neg (by decide), if_neg (by decide)], show ml_ey 100 b y v = y by rw [ml_ey, if_neg (by decide), if_neg (by decide)], show ml_ez 100 c z w = z by rw [ml_ez, if_neg (by decide)]]
      refine ⟨ml_down x y z a.toNatClampNeg, ?_, ?_, ?_, if_pos (Or.inl rfl)⟩
      · rw [List.getLast?_map, ml_deps_last]; rfl
      · show x + (x - x) = x
        grind
      · show y + (y - y) = y
        grind
    · have h3 : k = 112 := by
        rcases hk with h | h | h | h
        · exact absurd (Or.inl h) h1
        · exact absurd (Or.inr h) h1
        · exact absurd h h2
        · exact h
      subst h3
      obtain ⟨B, rfl, hB⟩ := h112 rfl
      rw [show ml_legs 112 a (nI B) c x y z u v w = [ml_down x y z c.toNatClampNeg, mk_one x y (z - c) (x + a) y (z - c)] ++ ml_pk x (x + a) y (z - c) B by rw [ml_legs, if_neg (by decide), if_neg (by decide), if_pos rfl, nI_clamp (by omega)], show ml_ex 112 a (nI B) x u = ml_px x (x + a) B by rw [ml_ex, if_neg (by decide), if_pos rfl, nI_clamp (by omega)], show ml_ey 112 (nI B) y v = y + nI B by rw [ml_ey, if_neg (by decide), if_pos rfl], show ml_ez 112 c z w = z by rw [ml_ez, if_neg (by decide)]]
      cases B with
      | zero =>
        refine ⟨mk_one x y (z - c) (x + a) y (z - c), ?_, ?_, ?_, if_pos (Or.inr rfl)⟩
        · rw [ml_pk]; rfl
        · show x + (x + a - x) = ml_px x (x + a) 0
          rw [ml_px, if_pos rfl]
          grind
        · show y + (y - y) = y + 0
          grind
      | succ i =>
        refine ⟨mk_one (ml_px x (x + a) i) (y + nI i + 1) (z - c) (ml_px x (x + a) (i + 1)) (y + nI i + 1) (z - c), ?_, ?_, ?_, if_pos (Or.inr rfl)⟩
        · rw [ml_pk, ← List.append_assoc]
          rw [List.getLast?_append]
          rfl
        · show ml_px x (x + a) i + (ml_px x (x + a) (i + 1) - ml_px x (x + a) i) = _
          grind
        · show y + nI i + 1 + (y + nI i + 1 - (y + nI i + 1)) = y + nI (i + 1)
          rw [← nI_1]
          grind
