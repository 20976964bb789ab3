/-! THE LAW'S GROUPS: beginning anew on both sides; reset. (rows by gen/sp42.py) -/
theorem lw_begin {ha : Nat → Nat → Int32} {hz : Int32} {T : Nat → Bool} {M n : Nat} {a1 : Nat → Nat → Int32} {s1 : Nat → Int32} {ma : Nat → Nat → Int32} {ms : Nat → Int32} {g u v g2 u2 v2 : Nat → Int32} (hH : sx_H ha hz T M) (hh : mm_H ha T M ma ms) (hg : ∀ j, j < 72 → g j = 65535) (hu : ∀ j, j < 12 → u j = 0) (hv : ∀ j, j < 8 → v j = 0) (hg2 : ∀ j, j < 1152 → g2 j = 0) (hu2 : ∀ j, j < 12 → u2 j = 0) (hv2 : ∀ j, j < 8 → v2 j = 0) : lw_I n ha hz (mc_a0 a1 g u v) (mc_s0 s1) FP.fconst0 45 (mb_a0 ma g2 u2 v2) (mb_s0 ms) FP.fconst0 := by
  refine ⟨T, M, 0, fun _ => true, hH, mm_H_ok (fun i h4 h8 h9 h11 h12 h14 => ?_) rfl hh, fun k hk => by omega, fun h => by omega, fun j hj => (hg j hj).trans mr_w_all.symm, sx_begin hu hv, ⟨?_, ?_⟩, rfl, rfl, Nat.zero_le _⟩
  · simp only [mb_a0, am_u2, beq_no h4, beq_no h9, beq_no h11, beq_no h14, cond_false]
  · intro q hq
    have e : mb_a0 ma g2 u2 v2 14 q = 0 := hg2 q hq
    rw [mg_S, e]
    rfl
  · refine ⟨fun c hc => ?_, fun j hj => ?_, fun j hj => ?_, fun p hp h5 => absurd hp List.not_mem_nil, fun j h1 h2 h3 => ?_, rfl, fun q hq => ?_⟩
    · show (if 1 = 3 ∧ c = 2 then (9 : Int32) else 0) = u2 c
      rw [if_neg (by omega), hu2 c hc]
    · show (if 2 = 3 ∧ j = 2 then (9 : Int32) else 0) = v2 j
      rw [if_neg (by omega), hv2 j hj]
    · have : j = 0 ∨ j = 1 ∨ j = 2 := by omega
      rcases this with rfl | rfl | rfl <;> rfl
    · have : j = 8 ∨ j = 9 ∨ j = 10 ∨ j = 12 ∨ j = 13 ∨ j = 14 ∨ j = 15 := by omega
      rcases this with rfl | rfl | rfl | rfl | rfl | rfl | rfl <;> rfl
    · have e : mb_a0 ma g2 u2 v2 14 q = 0 := hg2 q hq
      show true = mg_S (mb_a0 ma g2 u2 v2) q
      rw [mg_S, e]
      rfl
set_option maxHeartbeats 4000000 in
theorem xw_684 {P : am_P} (hm : am_mono P) {L : Nat} {xs : Nat → Int32} (hP : xm_HP (some (L, xs)) 15 27 xl_K P) {ha : Nat → Nat → Int32} {hz : Int32} {a1 : Nat → Nat → Int32} {s1 : Nat → Int32} {t1 : UInt32} {a2 : Nat → Nat → Int32} {s2 : Nat → Int32} {t2 : UInt32} {al : Int32} {ma : Nat → Nat → Int32} {ms : Nat → Int32} {mt : UInt32} {ol : Nat → Int64} {od : Nat → UInt64} {g : Nat} (hg : 6 * g + 6 ≤ L) (hL : L ≤ 3072) (hI : lw_I g ha hz a1 s1 t1 al ma ms mt) {bc bs : Nat} (hbc : 512 - g ≤ bc) (hbs : 6 * (512 - g) ≤ bs) (hn : ∀ (ha : Nat → Nat → Int32) (hz : Int32) (a1 : Nat → Nat → Int32) (s1 : Nat → Int32) (t1 : UInt32) (a2 : Nat → Nat → Int32) (s2 : Nat → Int32) (t2 : UInt32) (al : Int32) (ma : Nat → Nat → Int32) (ms : Nat → Int32) (mt : UInt32) (ol : Nat → Int64) (od : Nat → UInt64), lw_I (g + 1) ha hz a1 s1 t1 al ma ms mt → ∀ bc bs : Nat, 511 - g ≤ bc → 6 * (511 - g) ≤ bs → P 28 [some (.ref 1500), some (.ref 0), some (.ref 39), some (.ref 55), some (.ref 56), some (.int (nI (6 * (g + 1)))), none, none, none, none] [] (am_W ha hz a1 s1 t1 a2 s2 t2 al ma ms mt ol od) bc bs) : P 684 [some (.ref 1500), some (.ref 0), some (.ref 39), some (.ref 55), some (.ref 56), some (.int (nI (6 * g))), none, none, none, none] [] (am_W ha hz a1 s1 t1 a2 s2 t2 al ma ms mt ol od) bc bs := by
  obtain ⟨T, M, D, S, hH, hh, hr, hWD, hS, hE, hD, hV, e8, e9, e10, et, eu, ev, ep, hB⟩ := lw_both hI
  obtain ⟨-, -, -, -, -, -, -, -, -, -, -, hal, hnar, -⟩ := id hI
  refine x_aload_n hP u27_684 rfl ?_
  refine x_invokevirtual (bc' := bc) (bs' := bs) hP u27_685 rfl rfl rfl rfl rfl ?_
  refine sp71 (fun g9 u v hg9 hu hv => ?_)
  refine x_aload_n hP u27_688 rfl ?_
  refine x_invokevirtual (bc' := bc) (bs' := bs) hP u27_689 rfl rfl rfl rfl rfl ?_
  refine sp135 (fun g2 u2 v2 hg2 hu2 hv2 => ?_)
  refine x_icmp_eq hP u27_692 (fun q692 => ?_) (fun q692 => ?_)
  · refine x_iinc_5 (v := 6) hP u27_1388 (by decide) (by exact rfl) ?_
    refine x_goto hP u27_1391 ?_
    rw [show nI (6 * g) + 6 = nI (6 * (g + 1)) from nI_add (6 * g) 6]
    refine hm _ _ _ _ _ _ _ (by repeat (first | exact am_le_nil | apply am_le_cons | apply am_le_none)) (hn _ _ _ _ _ _ _ _ _ _ _ _ _ _ (lw_I_15 (g := g) (lw_begin hH hh hg9 hu hv hg2 hu2 hv2)) _ _ (by omega) (by omega))
  · exact absurd e9 q692
