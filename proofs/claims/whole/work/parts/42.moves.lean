/-! THE MODEL: the moves of a block, in each of the three ways. (rows by gen/sp19.py) -/
def mg_req (ma : Nat → Nat → Int32) (ms : Nat → Int32) (c s R : Nat) : Prop := ms 19 = nI c ∧ c < 12 ∧ ma 0 c = nI s ∧ ma 2 c = nI R ∧ (s = 101 ∨ s = 98 ∨ s = 118) ∧ R < 4
def mg_hit (S : Nat → Bool) (s R : Nat) (e : ml_L) : Prop := ∃ k, 1 ≤ k ∧ k ≤ ml_N e ∧ ∃ q, q < 1152 ∧ S q = true ∧ ml_re s R (ml_at e k) q = true
def mg_met (cut : Bool) (S T : Nat → Bool) (q : Nat) : Bool := (!cut && S q) || (true && T q)
def mg_ok (h : Int32) (cut : Bool) (T : Nat → Bool) (sl : Int32) (s R : Nat) (S : Nat → Bool) (e : ml_L) : Prop := (h = 108 → ∀ k, 1 ≤ k → k ≤ ml_N e → mg_at e k = true) ∧ (h = 99 → ¬ sl = -1 → ¬ mg_hit (mg_met cut S T) s R e)
def mg_f (cut : Bool) (fd : Int32) : UInt32 := FP.fdiv FP.fconst1 (if cut = true then FP.i2f fd else 1120403456)
def mg_m (h : Int32) (cut : Bool) (c s R : Nat) (e : ml_L) (ma : Nat → Nat → Int32) : Nat → Nat → Int32 := if h = 100 then cond cut (mg_tk c s R ma (ml_pl e (ml_N e))) ma else ma
def mg_g (h : Int32) (cut : Bool) (c s R : Nat) (e : ml_L) (ma : Nat → Nat → Int32) : Nat → Nat → Int32 := mg_to (mg_m h cut c s R e ma) e.1 e.2.1 e.2.2.1 e.2.2.2.1 e.2.2.2.2.1 e.2.2.2.2.2
def mg_t (h : Int32) (cut : Bool) (fd : Int32) (e : ml_L) (t : UInt32) : UInt32 := if h = 100 then FP.fadd t (FP.fmul (FP.i2f (ml_n e)) (mg_f cut fd)) else t
noncomputable def mg_res (h : Int32) (cut : Bool) (T : Nat → Bool) (sl : Int32) (c s R : Nat) (fd : Int32) : List ml_L → (Nat → Nat → Int32) → UInt32 → Bool × (Nat → Nat → Int32) × UInt32
  | [], ma, t => (true, ma, t)
  | e :: r, ma, t => if mx_d (mg_ok h cut T sl s R (mg_S ma) e) = true then mg_res h cut T sl c s R fd r (mg_g h cut c s R e ma) (mg_t h cut fd e t) else (false, ma, t)
def mg_fine (h : Int32) (cut : Bool) (fd : Int32) (es : List ml_L) (t : UInt32) : Prop := (∀ e ∈ es, mg_few e ∧ (¬ h = 108 → ml_inn e)) ∧ (h = 100 → vf_n32 (mg_f cut fd) ∧ ml_tok (mg_f cut fd) es t)
def mg_ctx (h : Int32) (cut : Bool) (T : Nat → Bool) (c s R : Nat) (ma : Nat → Nat → Int32) (ms : Nat → Int32) (t : UInt32) (es : List ml_L) : Prop := (h = 108 ∨ h = 99 ∨ h = 100) ∧ ms 26 = h ∧ mg_B ma ∧ (∀ q, q < 1152 → ma 13 q = am_b (T q)) ∧ (ms 19 = -1 ∨ mg_req ma ms c s R) ∧ (h = 100 → cut = true → ¬ ms 19 = -1) ∧ mg_fine h cut (ms 20) es t
theorem mg_m_i {h : Int32} {cut : Bool} {c s R i : Nat} {e : ml_L} {ma : Nat → Nat → Int32} (h4 : i ≠ 4) (h14 : i ≠ 14) : mg_m h cut c s R e ma i = ma i := by
  unfold mg_m
  split
  · cases cut
    · rw [cond_false]
    · rw [cond_true]
      exact mg_tk_i h4 h14 (ml_pl e (ml_N e)) ma
  · rfl
theorem mg_g_i {h : Int32} {cut : Bool} {c s R i : Nat} {e : ml_L} {ma : Nat → Nat → Int32} (h4 : i ≠ 4) (h14 : i ≠ 14) (h12 : i ≠ 12) : mg_g h cut c s R e ma i = ma i := by
  simp only [mg_g, mg_to, am_u2, beq_no h12, cond_false]
  exact mg_m_i h4 h14
theorem mg_g_m {h : Int32} {cut : Bool} {c s R i : Nat} {e : ml_L} {ma : Nat → Nat → Int32} (h12 : i ≠ 12) : mg_g h cut c s R e ma i = mg_m h cut c s R e ma i := by
  simp only [mg_g, mg_to, am_u2, beq_no h12, cond_false]
theorem mg_B_m {h : Int32} {cut : Bool} {c s R : Nat} {e : ml_L} {ma : Nat → Nat → Int32} (hB : mg_B ma) : mg_B (mg_m h cut c s R e ma) := by
  unfold mg_m
  split
  · cases cut
    · rw [cond_false]
      exact hB
    · rw [cond_true]
      exact mg_B_all (ml_pl e (ml_N e)) ma hB
  · exact hB
theorem mg_B_14 {ma mb : Nat → Nat → Int32} (h : ma 14 = mb 14) (hB : mg_B mb) : mg_B ma := by
  intro q hq
  unfold mg_S
  rw [h]
  exact hB q hq
theorem mg_B_g {h : Int32} {cut : Bool} {c s R : Nat} {e : ml_L} {ma : Nat → Nat → Int32} (hB : mg_B ma) : mg_B (mg_g h cut c s R e ma) := mg_B_14 (mg_g_m (by decide)) (mg_B_m hB)
theorem mg_fine_next {h : Int32} {cut : Bool} {fd : Int32} {e : ml_L} {r : List ml_L} {t : UInt32} (hf : mg_fine h cut fd (e :: r) t) : mg_fine h cut fd r (mg_t h cut fd e t) := by
  refine ⟨fun e9 h9 => hf.1 e9 (List.mem_cons_of_mem _ h9), fun h9 => ?_⟩
  obtain ⟨h1, h2⟩ := hf.2 h9
  refine ⟨h1, ?_⟩
  rw [mg_t, if_pos h9]
  exact h2.2.2
theorem mg_ctx_next {h : Int32} {cut : Bool} {T : Nat → Bool} {c s R : Nat} {ma : Nat → Nat → Int32} {ms : Nat → Int32} {t : UInt32} {e : ml_L} {r : List ml_L} (hx : mg_ctx h cut T c s R ma ms t (e :: r)) : mg_ctx h cut T c s R (mg_g h cut c s R e ma) ms (mg_t h cut (ms 20) e t) r := by
  obtain ⟨h1, h2, h3, h4, h5, h6, h7⟩ := hx
  refine ⟨h1, h2, mg_B_g h3, fun q hq => ?_, ?_, h6, mg_fine_next h7⟩
  · rw [mg_g_i (by decide) (by decide) (by decide)]
    exact h4 q hq
  · refine h5.imp id (fun hr => ?_)
    obtain ⟨r1, r2, r3, r4, r5, r6⟩ := hr
    refine ⟨r1, r2, ?_, ?_, r5, r6⟩
    · rw [mg_g_i (by decide) (by decide) (by decide)]; exact r3
    · rw [mg_g_i (by decide) (by decide) (by decide)]; exact r4
theorem mg_g_12 {h : Int32} {cut : Bool} {c s R : Nat} {e : ml_L} {ma : Nat → Nat → Int32} : mg_g h cut c s R e ma 12 = mp_3 (mg_m h cut c s R e ma 12) 0 (e.1 + e.2.2.2.1) (e.2.1 + e.2.2.2.2.1) (e.2.2.1 + e.2.2.2.2.2) := rfl
theorem mg_res_yes {h : Int32} {cut : Bool} {T : Nat → Bool} {sl : Int32} {c s R : Nat} {fd : Int32} {e : ml_L} {r : List ml_L} {ma : Nat → Nat → Int32} {t : UInt32} (h9 : mg_ok h cut T sl s R (mg_S ma) e) : mg_res h cut T sl c s R fd (e :: r) ma t = mg_res h cut T sl c s R fd r (mg_g h cut c s R e ma) (mg_t h cut fd e t) := by
  rw [mg_res, if_pos (mx_d_iff.mpr h9)]
theorem mg_res_no {h : Int32} {cut : Bool} {T : Nat → Bool} {sl : Int32} {c s R : Nat} {fd : Int32} {e : ml_L} {r : List ml_L} {ma : Nat → Nat → Int32} {t : UInt32} (h9 : ¬ mg_ok h cut T sl s R (mg_S ma) e) : mg_res h cut T sl c s R fd (e :: r) ma t = (false, ma, t) := by
  rw [mg_res, if_neg (fun q => h9 (mx_d_iff.mp q))]
set_option maxHeartbeats 1000000 in
theorem sp121 {d : Nat} {K : am_K} {ha : Nat → Nat → Int32} {hz : Int32} {a1 : Nat → Nat → Int32} {s1 : Nat → Int32} {t1 : UInt32} {a2 : Nat → Nat → Int32} {s2 : Nat → Int32} {t2 : UInt32} {al : Int32} {ma : Nat → Nat → Int32} {ms : Nat → Int32} {mt : UInt32} {ol : Nat → Int64} {od : Nat → UInt64} {h : Int32} {cut : Bool} {T : Nat → Bool} {c s R : Nat} {e : ml_L} {r : List ml_L} (hx : mg_ctx h cut T c s R ma ms mt (e :: r)) (kt : mg_ctx h cut T c s R (mg_g h cut c s R e ma) ms (mg_t h cut (ms 20) e mt) r → mg_res h cut T (ms 19) c s R (ms 20) (e :: r) ma mt = mg_res h cut T (ms 19) c s R (ms 20) r (mg_g h cut c s R e ma) (mg_t h cut (ms 20) e mt) → K (some (.int 1)) (am_W ha hz a1 s1 t1 a2 s2 t2 al (mg_g h cut c s R e ma) ms (mg_t h cut (ms 20) e mt) ol od)) (kf : mg_res h cut T (ms 19) c s R (ms 20) (e :: r) ma mt = (false, ma, mt) → K (some (.int 0)) (am_W ha hz a1 s1 t1 a2 s2 t2 al ma ms mt ol od)) : am_Run (d + 3) 121 [.ref 39, .int e.1, .int e.2.1, .int e.2.2.1, .int e.2.2.2.1, .int e.2.2.2.2.1, .int e.2.2.2.2.2, .int (am_b cut)] (am_W ha hz a1 s1 t1 a2 s2 t2 al ma ms mt ol od) K := by
  have hn := mg_ctx_next hx
  obtain ⟨h1, h2, h3, h4, h5, h6, h7⟩ := hx
  have h8 := h7.1 e List.mem_cons_self
  obtain ⟨x, y, z, dx, dy, dz⟩ := e
  rcases h1 with rfl | rfl | rfl
  · refine sp121l h2 h8.1 (fun q => ?_) (fun q => ?_)
    · have ok : mg_ok 108 cut T (ms 19) s R (mg_S ma) (x, y, z, dx, dy, dz) := ⟨fun _ => q, fun q => absurd q (by decide)⟩
      exact kt hn (mg_res_yes ok)
    · refine kf (mg_res_no (fun ok => ?_))
      obtain ⟨k9, q1, q2, q3⟩ := q
      have := ok.1 rfl k9 q1 q2
      rw [q3] at this
      cases this
  · have hin := h8.2 (by decide)
    rcases h5 with h5 | ⟨r1, r2, r3, r4, r5, r6⟩
    · refine sp121c0 h2 h8.1 hin h5 ?_
      exact kt hn (mg_res_yes ⟨fun q => absurd q (by decide), fun _ q => absurd h5 q⟩)
    · refine sp121c (S := mg_S ma) (T := T) (c := c) (s := s) (R := R) h2 h8.1 h3 h4 r1 r2 r3 r4 r5 r6 hin (fun q => ?_) (fun q => ?_)
      · exact kt hn (mg_res_yes ⟨fun q => absurd q (by decide), fun _ _ => q⟩)
      · refine kf (mg_res_no (fun ok => ?_))
        refine ok.2 rfl ?_ q
        rw [r1]
        intro q9
        exact absurd (nI_pos' (n := c) (by omega)) (by rw [q9]; decide)
  · have hin := h8.2 (by decide)
    obtain ⟨f1, f2⟩ := h7.2 rfl
    refine sp121d (c := c) (s := s) (R := R) h2 h8.1 h3 (fun hc => h5.resolve_left (h6 rfl hc)) hin f1 f2.1 f2.2.1 ?_
    exact kt hn (mg_res_yes ⟨fun q => absurd q (by decide), fun q => absurd q (by decide)⟩)
