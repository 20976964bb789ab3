/-! THE MODEL: a block carried out, by its kind. (rows by gen/sp28.py) -/
theorem mx_al_nar {ha : Nat → Nat → Int32} {S T : Nat → Bool} {a : Nat → Nat → Int32} {q : Nat → Int32} {sh R X Y Z : Nat} : narrow .char (.int (mx_al ha S T a q sh R X Y Z)) = .int (mx_al ha S T a q sh R X Y Z) := by
  rw [mx_al]
  split
  · rfl
  · split
    · exact mc_tool_nar
    · exact me_cell_nar
theorem mc_tool_no {ha : Nat → Nat → Int32} {us : Nat → Int32} {k a b sl sp : Int32} (hk : mc_cut k = false) (h116 : ¬ k = 116) (h120 : ¬ k = 120) : mc_tool ha us k a b sl sp = 45 := by
  rw [mc_tool, if_neg h116, if_neg (fun r => by rw [hk] at r; exact absurd r.1 (by decide)), if_neg (by
    rintro (⟨r | r, -⟩ | ⟨r, -⟩)
    · rw [hk] at r; cases r
    · exact h120 r
    · rw [hk] at r; cases r)]
/-- a kind that moves nothing and asks no cutter -/
theorem mx_al_pl {ha : Nat → Nat → Int32} {S T : Nat → Bool} {a : Nat → Nat → Int32} {q : Nat → Int32} {sh R X Y Z : Nat} (h : ¬ mx_mv (q 16)) (h116 : ¬ q 16 = 116) (h120 : ¬ q 16 = 120) : mx_al ha S T a q sh R X Y Z = if mc_told ha (q 16) (q 17) (q 18) (q 19) = false then 110 else 45 := by
  rw [mx_al_no h, mx_tool, mc_tool_no (mx_cut_no h) h116 h120]
  by_cases ht : mc_told ha (q 16) (q 17) (q 18) (q 19) = false
  · rw [if_pos ht, if_pos ht]
  · rw [if_neg ht, if_neg ht, if_neg (fun r => r rfl), if_neg (fun r => h120 r.1)]
theorem mx_al_110 {ha : Nat → Nat → Int32} {S T : Nat → Bool} {a : Nat → Nat → Int32} {q : Nat → Int32} {sh R X Y Z : Nat} (ht : mc_told ha (q 16) (q 17) (q 18) (q 19) = false) : mx_al ha S T a q sh R X Y Z = 110 := by rw [mx_al, if_pos ht]
theorem mx_al_45 {ha : Nat → Nat → Int32} {S T : Nat → Bool} {a : Nat → Nat → Int32} {q : Nat → Int32} {sh R X Y Z : Nat} (h : ¬ mx_mv (q 16)) (h116 : ¬ q 16 = 116) (h120 : ¬ q 16 = 120) (ht : mc_told ha (q 16) (q 17) (q 18) (q 19) = true) : mx_al ha S T a q sh R X Y Z = 45 := by
  rw [mx_al_pl h h116 h120, if_neg (by rw [ht]; decide)]
theorem mx_al_tl {ha : Nat → Nat → Int32} {S T : Nat → Bool} {a : Nat → Nat → Int32} {q : Nat → Int32} {sh R X Y Z : Nat} {v : Int32} (h : ¬ mx_mv (q 16)) (ht : mc_told ha (q 16) (q 17) (q 18) (q 19) = true) (hl : mx_tool ha a q = v) (hv : ¬ v = 45) : mx_al ha S T a q sh R X Y Z = v := by
  rw [mx_al_no h, if_neg (by rw [ht]; decide), if_pos (by rw [hl]; exact hv), hl]
theorem mx_al_45t {ha : Nat → Nat → Int32} {S T : Nat → Bool} {a : Nat → Nat → Int32} {q : Nat → Int32} {sh R X Y Z : Nat} (h : ¬ mx_mv (q 16)) (h120 : ¬ q 16 = 120) (ht : mc_told ha (q 16) (q 17) (q 18) (q 19) = true) (hl : mx_tool ha a q = 45) : mx_al ha S T a q sh R X Y Z = 45 := by
  rw [mx_al_no h, if_neg (by rw [ht]; decide), if_neg (fun r => r hl), if_neg (fun r => h120 r.1)]
theorem mb_mk {ha : Nat → Nat → Int32} {ma : Nat → Nat → Int32} {q ms : Nat → Int32} (hoff : ∀ j, j < 12 → ma 10 j = ha 4 j) (hO : ∃ O, ms 21 = nI O ∧ O < 4) (e13 : q 13 = ms 21) (e14 : q 14 = ms 22) {i : Nat} (hi : i < 3) : mb_b ha (mm_a ma) q i = mk_b ma ms i := by
  obtain ⟨O, h1, h2⟩ := hO
  rw [mb_b, mk_b, e13, e14, h1, nI_clamp (by omega), hoff _ (by omega)]
  rfl
theorem mc_first_cg {p p' : Nat → Bool} : ∀ n B, (∀ j, B ≤ j → j < B + n → p j = p' j) → mc_first p B n = mc_first p' B n
  | 0, B, _ => rfl
  | n + 1, B, h => by rw [mc_first, mc_first, h B (by omega) (by omega), mc_first_cg n (B + 1) (fun j h1 h2 => h j (by omega) (by omega))]
theorem me_lev_le {p : Nat → Bool} : ∀ Z, me_lev p Z ≤ Z
  | 0 => Nat.le_refl _
  | Z + 1 => by
    rw [me_lev]
    split
    · exact Nat.le_refl _
    · have := me_lev_le (p := p) Z; omega
theorem mc_clip_s : ∀ l, l < 11 → mc_clip (nI l) = nI l := by decide +kernel
theorem sh_45 {ha ma : Nat → Nat → Int32} (hsh0 : ∀ c, c < 12 → ma 0 c = if ha 0 c = 0 then 45 else ha 0 c) (hshv : ∀ c, c < 12 → ha 0 c = 0 ∨ ha 0 c = 101 ∨ ha 0 c = 98 ∨ ha 0 c = 118) {c : Nat} (hc : c < 12) : ma 0 c = 45 ↔ ha 0 c = 0 := by
  rw [hsh0 c hc]
  rcases hshv c hc with h | h | h | h
  · rw [h]; decide
  · rw [h]; decide
  · rw [h]; decide
  · rw [h]; decide
theorem sh_eq {ha ma : Nat → Nat → Int32} (hsh0 : ∀ c, c < 12 → ma 0 c = if ha 0 c = 0 then 45 else ha 0 c) (hshv : ∀ c, c < 12 → ha 0 c = 0 ∨ ha 0 c = 101 ∨ ha 0 c = 98 ∨ ha 0 c = 118) {c d : Nat} (hc : c < 12) (hd : d < 12) : decide (ma 0 c = ma 0 d) = decide (ha 0 d = ha 0 c) := by
  rw [hsh0 c hc, hsh0 d hd]
  rcases hshv c hc with h | h | h | h <;> rcases hshv d hd with g | g | g | g <;> rw [h, g] <;> decide
theorem mt_take {ha ma : Nat → Nat → Int32} (hsh0 : ∀ c, c < 12 → ma 0 c = if ha 0 c = 0 then 45 else ha 0 c) (hshv : ∀ c, c < 12 → ha 0 c = 0 ∨ ha 0 c = 101 ∨ ha 0 c = 98 ∨ ha 0 c = 118) (hrad : ∀ c, c < 12 → ma 2 c = ha 1 c) (hli : ∀ c, c < 12 → ma 3 c = ha 2 c) {A B : Nat} (hA : A < 3) (hB : B < 4) : mc_first (mc_p ha (ma 4) A B) B (4 - B) = mc_first (mt_p ma A B) B (4 - B) := by
  refine mc_first_cg _ _ (fun j h1 h2 => ?_)
  rw [mc_p, mt_p, sh_eq hsh0 hshv (by omega) (by omega), hrad _ (by omega), hrad _ (by omega), hli _ (by omega)]
  congr 2
  exact decide_eq_decide.mpr ⟨Eq.symm, Eq.symm⟩
theorem mw_ok_cg {kd ke : Nat → Int32} {n : Nat} (h : ∀ i, i < n → kd i = ke i) (hk : mw_ok kd n) : mw_ok ke n := by
  intro m hm
  rw [← h m hm, ← mw_congr (m + 1) (fun i hi => h i (by omega)), ← mw_congr m (fun i hi => h i (by omega))]
  exact hk m hm
theorem mm_up_17 {ms : Nat → Int32} : mm_up ms 17 = ms 17 + 1 := rfl
theorem mm_up_18 {ms : Nat → Int32} : mm_up ms 18 = ms 18 + 1 := rfl
theorem mm_up_o {ms : Nat → Int32} {j : Nat} (h1 : j ≠ 17) (h2 : j ≠ 18) : mm_up ms j = ms j := by
  simp only [mm_up, am_u1, beq_no h1, beq_no h2, cond_false]
theorem told_116 {ha : Nat → Nat → Int32} {a b c : Int32} : mc_told ha 116 a b c = (mi_slot a b && (mi_iw (4 * a + b) 0 11 && decide (¬ ha 0 (4 * a + b).toNatClampNeg = 0))) := by rw [mc_told, if_neg (by decide), if_neg (by decide), if_pos (by decide)]
theorem told_115 {ha : Nat → Nat → Int32} {a b c : Int32} : mc_told ha 115 a b c = (mi_iw a 0 1) := by rw [mc_told, if_neg (by decide), if_neg (by decide), if_neg (by decide), if_pos (by decide)]
theorem told_109 {ha : Nat → Nat → Int32} {a b c : Int32} : mc_told ha 109 a b c = (mi_iw a 0 1) := by rw [mc_told, if_neg (by decide), if_neg (by decide), if_neg (by decide), if_pos (by decide)]
theorem told_102 {ha : Nat → Nat → Int32} {a b c : Int32} : mc_told ha 102 a b c = (mi_iw a 1 50) := by rw [mc_told, if_neg (by decide), if_neg (by decide), if_neg (by decide), if_neg (by decide), if_pos (by decide)]
theorem told_111 {ha : Nat → Nat → Int32} {a b c : Int32} : mc_told ha 111 a b c = (mi_iw a 0 3) := by rw [mc_told, if_neg (by decide), if_neg (by decide), if_neg (by decide), if_neg (by decide), if_neg (by decide), if_pos (by decide)]
theorem told_118 {ha : Nat → Nat → Int32} {a b c : Int32} : mc_told ha 118 a b c = (mi_iw a 0 7) := by rw [mc_told, if_neg (by decide), if_neg (by decide), if_neg (by decide), if_neg (by decide), if_neg (by decide), if_neg (by decide), if_pos (by decide)]
theorem told_120 {ha : Nat → Nat → Int32} {a b c : Int32} : mc_told ha 120 a b c = (mi_iw a 0 7) := by rw [mc_told, if_neg (by decide), if_neg (by decide), if_neg (by decide), if_neg (by decide), if_neg (by decide), if_neg (by decide), if_pos (by decide)]
theorem told_114 {ha : Nat → Nat → Int32} {a b c : Int32} : mc_told ha 114 a b c = (mi_iw a 0 9) := by rw [mc_told, if_neg (by decide), if_neg (by decide), if_neg (by decide), if_neg (by decide), if_neg (by decide), if_neg (by decide), if_neg (by decide), if_pos (by decide)]
theorem told_105 {ha : Nat → Nat → Int32} {a b c : Int32} : mc_told ha 105 a b c = (true) := by rw [mc_told, if_neg (by decide), if_neg (by decide), if_neg (by decide), if_neg (by decide), if_neg (by decide), if_neg (by decide), if_neg (by decide), if_neg (by decide)]
theorem told_101 {ha : Nat → Nat → Int32} {a b c : Int32} : mc_told ha 101 a b c = (true) := by rw [mc_told, if_neg (by decide), if_neg (by decide), if_neg (by decide), if_neg (by decide), if_neg (by decide), if_neg (by decide), if_neg (by decide), if_neg (by decide)]
theorem told_113 {ha : Nat → Nat → Int32} {a b c : Int32} : mc_told ha 113 a b c = (true) := by rw [mc_told, if_neg (by decide), if_neg (by decide), if_neg (by decide), if_neg (by decide), if_neg (by decide), if_neg (by decide), if_neg (by decide), if_neg (by decide)]
set_option maxHeartbeats 4000000 in
theorem sp133_103 {d : Nat} {K : am_K} {ha : Nat → Nat → Int32} {hz : Int32} {a1 : Nat → Nat → Int32} {s1 : Nat → Int32} {t1 : UInt32} {a2 : Nat → Nat → Int32} {s2 : Nat → Int32} {t2 : UInt32} {al : Int32} {ma : Nat → Nat → Int32} {ms : Nat → Int32} {mt : UInt32} {ol : Nat → Int64} {od : Nat → UInt64} {T : Nat → Bool} {N M c s R X Y Z : Nat} {q : Nat → Int32} (hq : q = mx_q4 ha N (mm_a ma) (mm_s ms)) (hN : ms 17 = nI N) (hNM : N < M) (hM : hz = nI M) (hM9 : M ≤ 64) (hkd : ∀ i, i < M → ma 1 i = ha 5 i) (hta : ∀ i, i < M → ma 5 i = ha 6 i) (htb : ∀ i, i < M → ma 6 i = ha 7 i) (htc : ∀ i, i < M → ma 7 i = ha 8 i) (htm9 : ∀ i, i < M → mi_term (ha 6 i) = true ∧ mi_term (ha 7 i) = true ∧ mi_term (ha 8 i) = true) (hsh0 : ∀ c, c < 12 → ma 0 c = if ha 0 c = 0 then 45 else ha 0 c) (hshv : ∀ c, c < 12 → ha 0 c = 0 ∨ ha 0 c = 101 ∨ ha 0 c = 98 ∨ ha 0 c = 118) (hrad : ∀ c, c < 12 → ma 2 c = ha 1 c) (hli : ∀ c, c < 12 → ma 3 c = ha 2 c) (hoff : ∀ j, j < 12 → ma 10 j = ha 4 j) (hB : mg_B ma) (hT : ∀ q, q < 1152 → ma 13 q = am_b (T q)) (hm1 : ms 19 = -1 ∨ mg_req ma ms c s R) (hX : ma 11 0 = nI X) (hY : ma 11 1 = nI Y) (hZ : ma 11 2 = nI Z) (hX9 : X < 16) (hY9 : Y < 12) (hZ9 : Z < 10) (hO : ∃ O, ms 21 = nI O ∧ O < 4) (hb1 : mi_iw (q 17) (-50) 50 = true) (hb2 : mi_iw (q 18) (-50) 50 = true) (hb3 : mi_iw (q 19) (-50) 50 = true) (hfew : mc_told ha (q 16) (q 17) (q 18) (q 19) = true → ∀ e ∈ mx_es ha (mm_a ma) q, mg_few e) (hin : mc_told ha (q 16) (q 17) (q 18) (q 19) = true → (∀ e ∈ mx_es ha (mm_a ma) q, ml_ins e = true) → ∀ e ∈ mx_es ha (mm_a ma) q, ml_inn e) (hout : mc_told ha (q 16) (q 17) (q 18) (q 19) = true → (∀ e ∈ mx_es ha (mm_a ma) q, ∀ i, 1 ≤ i → i ≤ ml_N e → mg_at e i = true) → ∀ e ∈ mx_es ha (mm_a ma) q, ml_ins e = true) (htm : mc_told ha (q 16) (q 17) (q 18) (q 19) = true → (∀ e ∈ mx_es ha (mm_a ma) q, ml_inn e) → vf_n32 (mx_f q) ∧ ml_tok (mx_f q) (mx_es ha (mm_a ma) q) mt) (hW : mw_W (ha 5) M) (hP9 : mw_P (ha 5) (ha 9) M) (ka : ∀ (mb : Nat → Nat → Int32) (ms9 : Nat → Int32), ¬ (mx_al ha (mg_S ma) T (mm_a ma) q s R X Y Z) = 45 → (∀ i, i ≠ 12 → mb i = ma i) → (∀ j, j ≠ 26 → ms9 j = ms j) → K (some (.int (mx_al ha (mg_S ma) T (mm_a ma) q s R X Y Z))) (am_W ha hz a1 s1 t1 a2 s2 t2 al mb ms9 mt ol od)) (kf : ∀ (mb : Nat → Nat → Int32) (ms9 : Nat → Int32) (t9 : UInt32), (mx_al ha (mg_S ma) T (mm_a ma) q s R X Y Z) = 45 → mm_ok ma ms mb ms9 → mg_B mb → sx_E (ha 5) (mx_Q ha hz N (mm_a ma) q s R (mg_S ma) 8).toNatClampNeg (sx_go ha hz N (mm_a ma) q s R X Y Z (mg_S ma) mt) (mm_x mb (mm_up ms9) t9) → K (some (.int 45)) (am_W ha hz a1 s1 t1 a2 s2 t2 al mb ms9 t9 ol od)) (hk9 : ha 5 N = 103) : am_Run (d + 7) 133 [.ref 39] (am_W ha hz a1 s1 t1 a2 s2 t2 al ma ms mt ol od) K := by
  have e16 : q 16 = 103 := by rw [hq]; exact hk9
  have e17 : q 17 = mc_val (ma 9) (ha 6 N) := by rw [hq]; rfl
  have e18 : q 18 = mc_val (ma 9) (ha 7 N) := by rw [hq]; rfl
  have e19 : q 19 = mc_val (ma 9) (ha 8 N) := by rw [hq]; rfl
  have e10 : q 10 = ms 19 := by rw [hq]; rfl
  have e12 : q 12 = ms 20 := by rw [hq]; rfl
  have e13 : q 13 = ms 21 := by rw [hq]; rfl
  have e14 : q 14 = ms 22 := by rw [hq]; rfl
  have e15 : q 15 = ms 23 := by rw [hq]; rfl
  have e8 : q 8 = ms 17 := by rw [hq]; rfl
  have e9 : q 9 = ms 18 := by rw [hq]; rfl
  have n116 : ¬ q 16 = 116 := by rw [e16]; decide
  have n120 : ¬ q 16 = 120 := by rw [e16]; decide
  have hmv : mx_mv (q 16) := by rw [e16]; unfold mx_mv; decide
  refine ⟨rfl, fun P hm hP => ?_⟩
  show P 0 [some (.ref 39), none, none, none, none] [] _ 0 0
  refine s_aload_n hP t133_0 rfl ?_
  refine s_getfield hP t133_1 rfl rfl ?_
  refine s_aload_n hP t133_4 rfl ?_
  refine s_getfield hP t133_5 rfl rfl ?_
  refine s_caload hP t133_8 rfl (by rw [hN]; exact vp_in_nI (by omega) (by decide)) ?_
  rw [hN, nI_clamp (by omega), hkd N hNM, hk9]
  refine s_istore_n_1 hP t133_9 (by exact rfl) ?_
  refine s_aload_n hP t133_10 rfl ?_
  refine s_aload_n hP t133_11 rfl ?_
  refine s_getfield hP t133_12 rfl rfl ?_
  refine s_aload_n hP t133_15 rfl ?_
  refine s_getfield hP t133_16 rfl rfl ?_
  refine s_iaload hP t133_19 rfl (by rw [hN]; exact vp_in_nI (by omega) (by decide)) ?_
  rw [hN, nI_clamp (by omega), hta N hNM]
  refine s_invokevirtual (bc' := 0) (bs' := 0) hP t133_20 rfl rfl rfl rfl rfl ?_
  refine sp132 (htm9 N hNM).1 ?_
  refine s_istore_n_2 hP t133_23 (by exact rfl) ?_
  refine s_aload_n hP t133_24 rfl ?_
  refine s_aload_n hP t133_25 rfl ?_
  refine s_getfield hP t133_26 rfl rfl ?_
  refine s_aload_n hP t133_29 rfl ?_
  refine s_getfield hP t133_30 rfl rfl ?_
  refine s_iaload hP t133_33 rfl (by rw [hN]; exact vp_in_nI (by omega) (by decide)) ?_
  rw [hN, nI_clamp (by omega), htb N hNM]
  refine s_invokevirtual (bc' := 0) (bs' := 0) hP t133_34 rfl rfl rfl rfl rfl ?_
  refine sp132 (htm9 N hNM).2.1 ?_
  refine s_istore_n_3 hP t133_37 (by exact rfl) ?_
  refine s_aload_n hP t133_38 rfl ?_
  refine s_aload_n hP t133_39 rfl ?_
  refine s_getfield hP t133_40 rfl rfl ?_
  refine s_aload_n hP t133_43 rfl ?_
  refine s_getfield hP t133_44 rfl rfl ?_
  refine s_iaload hP t133_47 rfl (by rw [hN]; exact vp_in_nI (by omega) (by decide)) ?_
  rw [hN, nI_clamp (by omega), htc N hNM]
  refine s_invokevirtual (bc' := 0) (bs' := 0) hP t133_48 rfl rfl rfl rfl rfl ?_
  refine sp132 (htm9 N hNM).2.2 ?_
  refine s_istore_4 hP t133_51 (by exact rfl) ?_
  rw [← e17, ← e18, ← e19]
  refine s_iload_n hP t133_53 rfl ?_
  refine s_bipush (v := 103) hP t133_54 (by decide) ?_
  refine s_icmp_eq hP t133_56 (fun q56 => ?_) (fun q56 => ?_)
  · refine s_aload_n hP t133_77 rfl ?_
    refine s_iload_n hP t133_78 rfl ?_
    refine s_iload_n hP t133_79 rfl ?_
    refine s_iload_n hP t133_80 rfl ?_
    refine s_iload hP t133_81 rfl ?_
    refine s_invokevirtual (bc' := 0) (bs' := 0) hP t133_83 rfl rfl rfl rfl rfl ?_
    have hk : (103 : Int32) = 103 ∨ (103 : Int32) = 108 ∨ (103 : Int32) = 100 ∨ (103 : Int32) = 112 := by decide
    have hes : mx_es ha (mm_a ma) q = ml_legs 103 (q 17) (q 18) (q 19) (ma 11 0) (ma 11 1) (ma 11 2) (mk_b ma ms 0) (mk_b ma ms 1) (mk_b ma ms 2) := by
      rw [mx_es, e16, mb_mk (i := 0) hoff hO e13 e14 (by decide), mb_mk (i := 1) hoff hO e13 e14 (by decide), mb_mk (i := 2) hoff hO e13 e14 (by decide)]
      rfl
    have hff : mx_f q = mg_f (mc_cut 103) (ms 20) := by rw [mg_f_eq hk, mx_f, e16, e12]
    rw [e16, hff] at htm
    rw [e16] at hfew hin hout
    have hv : mz_al ha (ma 4) 103 (q 17) (q 18) (q 19) (ms 19) (ms 23) (mg_S ma) T s R X Y Z (mx_es ha (mm_a ma) q) = (mx_al ha (mg_S ma) T (mm_a ma) q s R X Y Z) := by
      rw [mz_al, mx_al, mx_tool, e16, e10, e15]
      rfl
    refine sp126 (c := c) (s := s) (R := R) (X := X) (Y := Y) (Z := Z) (T := T) (es := mx_es ha (mm_a ma) q) hes hk hB hT hm1 (fun _ => hO) hli hb1 hb2 hb3 hfew hin hout htm (fun mb ms9 h1 h2 h3 => ?_) (fun mb ms9 h1 h2 h3 h4 h5 h6 h7 h8 h9 => ?_)
    · rw [hv] at h1 ⊢
      refine s_ireturn hP t133_86 rfl mx_al_nar ?_
      exact ka mb ms9 h1 h2 h3
    · rw [hv] at h1
      refine s_ireturn hP t133_86 rfl rfl ?_
      refine kf mb ms9 _ h1 ⟨fun i h4 h8 h9 h11 h12 h14 => h2 i h4 h11 h12 h14, fun j hj => h3 j (by omega)⟩ h4 (sx_go_M hmv (fun c hc => ?_) (fun j hj => ?_) (fun j hj => ?_) (fun p hp h10 => ?_) ?_ ?_ (fun j hj hj2 hj3 => ?_) ?_ (fun r hr => ?_))
      · show _ = mb 4 c
        rw [mx_u, e16, e10, h6]
        rfl
      · show ma 9 j = mb 9 j
        rw [h2 9 (by decide) (by decide) (by decide) (by decide)]
      · show _ = mb 11 j
        rw [mx_p, mp_3_j hj, e16, mb_mk (i := 0) hoff hO e13 e14 (by decide), mb_mk (i := 1) hoff hO e13 e14 (by decide), mb_mk (i := 2) hoff hO e13 e14 (by decide)]
        have : j = 0 ∨ j = 1 ∨ j = 2 := by omega
        rcases this with rfl | rfl | rfl
        · rw [if_pos rfl, h7]; rfl
        · rw [if_neg (by decide), if_pos rfl, h8]; rfl
        · rw [if_neg (by decide), if_neg (by decide), h9]; rfl
      · show ma 8 p = mb 8 p
        rw [h2 8 (by decide) (by decide) (by decide) (by decide)]
      · rw [e8]
        show ms 17 + 1 = ms9 17 + 1
        rw [h3 17 (by decide)]
      · rw [e9]
        show ms 18 + 1 = ms9 18 + 1
        rw [h3 18 (by decide)]
      · have : j = 10 ∨ j = 12 ∨ j = 13 ∨ j = 14 ∨ j = 15 := by omega
        rcases this with rfl | rfl | rfl | rfl | rfl
        · exact e10.trans (h3 19 (by decide)).symm
        · exact e12.trans (h3 20 (by decide)).symm
        · exact e13.trans (h3 21 (by decide)).symm
        · exact e14.trans (h3 22 (by decide)).symm
        · exact e15.trans (h3 23 (by decide)).symm
      · rw [mx_t, hff]
        rfl
      · rw [mx_S, e16]
        exact (h5 r hr).symm
    
  · exact absurd rfl q56
set_option maxHeartbeats 4000000 in
theorem sp133_108 {d : Nat} {K : am_K} {ha : Nat → Nat → Int32} {hz : Int32} {a1 : Nat → Nat → Int32} {s1 : Nat → Int32} {t1 : UInt32} {a2 : Nat → Nat → Int32} {s2 : Nat → Int32} {t2 : UInt32} {al : Int32} {ma : Nat → Nat → Int32} {ms : Nat → Int32} {mt : UInt32} {ol : Nat → Int64} {od : Nat → UInt64} {T : Nat → Bool} {N M c s R X Y Z : Nat} {q : Nat → Int32} (hq : q = mx_q4 ha N (mm_a ma) (mm_s ms)) (hN : ms 17 = nI N) (hNM : N < M) (hM : hz = nI M) (hM9 : M ≤ 64) (hkd : ∀ i, i < M → ma 1 i = ha 5 i) (hta : ∀ i, i < M → ma 5 i = ha 6 i) (htb : ∀ i, i < M → ma 6 i = ha 7 i) (htc : ∀ i, i < M → ma 7 i = ha 8 i) (htm9 : ∀ i, i < M → mi_term (ha 6 i) = true ∧ mi_term (ha 7 i) = true ∧ mi_term (ha 8 i) = true) (hsh0 : ∀ c, c < 12 → ma 0 c = if ha 0 c = 0 then 45 else ha 0 c) (hshv : ∀ c, c < 12 → ha 0 c = 0 ∨ ha 0 c = 101 ∨ ha 0 c = 98 ∨ ha 0 c = 118) (hrad : ∀ c, c < 12 → ma 2 c = ha 1 c) (hli : ∀ c, c < 12 → ma 3 c = ha 2 c) (hoff : ∀ j, j < 12 → ma 10 j = ha 4 j) (hB : mg_B ma) (hT : ∀ q, q < 1152 → ma 13 q = am_b (T q)) (hm1 : ms 19 = -1 ∨ mg_req ma ms c s R) (hX : ma 11 0 = nI X) (hY : ma 11 1 = nI Y) (hZ : ma 11 2 = nI Z) (hX9 : X < 16) (hY9 : Y < 12) (hZ9 : Z < 10) (hO : ∃ O, ms 21 = nI O ∧ O < 4) (hb1 : mi_iw (q 17) (-50) 50 = true) (hb2 : mi_iw (q 18) (-50) 50 = true) (hb3 : mi_iw (q 19) (-50) 50 = true) (hfew : mc_told ha (q 16) (q 17) (q 18) (q 19) = true → ∀ e ∈ mx_es ha (mm_a ma) q, mg_few e) (hin : mc_told ha (q 16) (q 17) (q 18) (q 19) = true → (∀ e ∈ mx_es ha (mm_a ma) q, ml_ins e = true) → ∀ e ∈ mx_es ha (mm_a ma) q, ml_inn e) (hout : mc_told ha (q 16) (q 17) (q 18) (q 19) = true → (∀ e ∈ mx_es ha (mm_a ma) q, ∀ i, 1 ≤ i → i ≤ ml_N e → mg_at e i = true) → ∀ e ∈ mx_es ha (mm_a ma) q, ml_ins e = true) (htm : mc_told ha (q 16) (q 17) (q 18) (q 19) = true → (∀ e ∈ mx_es ha (mm_a ma) q, ml_inn e) → vf_n32 (mx_f q) ∧ ml_tok (mx_f q) (mx_es ha (mm_a ma) q) mt) (hW : mw_W (ha 5) M) (hP9 : mw_P (ha 5) (ha 9) M) (ka : ∀ (mb : Nat → Nat → Int32) (ms9 : Nat → Int32), ¬ (mx_al ha (mg_S ma) T (mm_a ma) q s R X Y Z) = 45 → (∀ i, i ≠ 12 → mb i = ma i) → (∀ j, j ≠ 26 → ms9 j = ms j) → K (some (.int (mx_al ha (mg_S ma) T (mm_a ma) q s R X Y Z))) (am_W ha hz a1 s1 t1 a2 s2 t2 al mb ms9 mt ol od)) (kf : ∀ (mb : Nat → Nat → Int32) (ms9 : Nat → Int32) (t9 : UInt32), (mx_al ha (mg_S ma) T (mm_a ma) q s R X Y Z) = 45 → mm_ok ma ms mb ms9 → mg_B mb → sx_E (ha 5) (mx_Q ha hz N (mm_a ma) q s R (mg_S ma) 8).toNatClampNeg (sx_go ha hz N (mm_a ma) q s R X Y Z (mg_S ma) mt) (mm_x mb (mm_up ms9) t9) → K (some (.int 45)) (am_W ha hz a1 s1 t1 a2 s2 t2 al mb ms9 t9 ol od)) (hk9 : ha 5 N = 108) : am_Run (d + 7) 133 [.ref 39] (am_W ha hz a1 s1 t1 a2 s2 t2 al ma ms mt ol od) K := by
  have e16 : q 16 = 108 := by rw [hq]; exact hk9
  have e17 : q 17 = mc_val (ma 9) (ha 6 N) := by rw [hq]; rfl
  have e18 : q 18 = mc_val (ma 9) (ha 7 N) := by rw [hq]; rfl
  have e19 : q 19 = mc_val (ma 9) (ha 8 N) := by rw [hq]; rfl
  have e10 : q 10 = ms 19 := by rw [hq]; rfl
  have e12 : q 12 = ms 20 := by rw [hq]; rfl
  have e13 : q 13 = ms 21 := by rw [hq]; rfl
  have e14 : q 14 = ms 22 := by rw [hq]; rfl
  have e15 : q 15 = ms 23 := by rw [hq]; rfl
  have e8 : q 8 = ms 17 := by rw [hq]; rfl
  have e9 : q 9 = ms 18 := by rw [hq]; rfl
  have n116 : ¬ q 16 = 116 := by rw [e16]; decide
  have n120 : ¬ q 16 = 120 := by rw [e16]; decide
  have hmv : mx_mv (q 16) := by rw [e16]; unfold mx_mv; decide
  refine ⟨rfl, fun P hm hP => ?_⟩
  show P 0 [some (.ref 39), none, none, none, none] [] _ 0 0
  refine s_aload_n hP t133_0 rfl ?_
  refine s_getfield hP t133_1 rfl rfl ?_
  refine s_aload_n hP t133_4 rfl ?_
  refine s_getfield hP t133_5 rfl rfl ?_
  refine s_caload hP t133_8 rfl (by rw [hN]; exact vp_in_nI (by omega) (by decide)) ?_
  rw [hN, nI_clamp (by omega), hkd N hNM, hk9]
  refine s_istore_n_1 hP t133_9 (by exact rfl) ?_
  refine s_aload_n hP t133_10 rfl ?_
  refine s_aload_n hP t133_11 rfl ?_
  refine s_getfield hP t133_12 rfl rfl ?_
  refine s_aload_n hP t133_15 rfl ?_
  refine s_getfield hP t133_16 rfl rfl ?_
  refine s_iaload hP t133_19 rfl (by rw [hN]; exact vp_in_nI (by omega) (by decide)) ?_
  rw [hN, nI_clamp (by omega), hta N hNM]
  refine s_invokevirtual (bc' := 0) (bs' := 0) hP t133_20 rfl rfl rfl rfl rfl ?_
  refine sp132 (htm9 N hNM).1 ?_
  refine s_istore_n_2 hP t133_23 (by exact rfl) ?_
  refine s_aload_n hP t133_24 rfl ?_
  refine s_aload_n hP t133_25 rfl ?_
  refine s_getfield hP t133_26 rfl rfl ?_
  refine s_aload_n hP t133_29 rfl ?_
  refine s_getfield hP t133_30 rfl rfl ?_
  refine s_iaload hP t133_33 rfl (by rw [hN]; exact vp_in_nI (by omega) (by decide)) ?_
  rw [hN, nI_clamp (by omega), htb N hNM]
  refine s_invokevirtual (bc' := 0) (bs' := 0) hP t133_34 rfl rfl rfl rfl rfl ?_
  refine sp132 (htm9 N hNM).2.1 ?_
  refine s_istore_n_3 hP t133_37 (by exact rfl) ?_
  refine s_aload_n hP t133_38 rfl ?_
  refine s_aload_n hP t133_39 rfl ?_
  refine s_getfield hP t133_40 rfl rfl ?_
  refine s_aload_n hP t133_43 rfl ?_
  refine s_getfield hP t133_44 rfl rfl ?_
  refine s_iaload hP t133_47 rfl (by rw [hN]; exact vp_in_nI (by omega) (by decide)) ?_
  rw [hN, nI_clamp (by omega), htc N hNM]
  refine s_invokevirtual (bc' := 0) (bs' := 0) hP t133_48 rfl rfl rfl rfl rfl ?_
  refine sp132 (htm9 N hNM).2.2 ?_
  refine s_istore_4 hP t133_51 (by exact rfl) ?_
  rw [← e17, ← e18, ← e19]
  refine s_iload_n hP t133_53 rfl ?_
  refine s_bipush (v := 103) hP t133_54 (by decide) ?_
  refine s_icmp_eq hP t133_56 (fun q56 => ?_) (fun q56 => ?_)
  · exact absurd q56 (by decide)
  · refine s_iload_n hP t133_59 rfl ?_
    refine s_bipush (v := 108) hP t133_60 (by decide) ?_
    refine s_icmp_eq hP t133_62 (fun q62 => ?_) (fun q62 => ?_)
    · refine s_aload_n hP t133_77 rfl ?_
      refine s_iload_n hP t133_78 rfl ?_
      refine s_iload_n hP t133_79 rfl ?_
      refine s_iload_n hP t133_80 rfl ?_
      refine s_iload hP t133_81 rfl ?_
      refine s_invokevirtual (bc' := 0) (bs' := 0) hP t133_83 rfl rfl rfl rfl rfl ?_
      have hk : (108 : Int32) = 103 ∨ (108 : Int32) = 108 ∨ (108 : Int32) = 100 ∨ (108 : Int32) = 112 := by decide
      have hes : mx_es ha (mm_a ma) q = ml_legs 108 (q 17) (q 18) (q 19) (ma 11 0) (ma 11 1) (ma 11 2) (mk_b ma ms 0) (mk_b ma ms 1) (mk_b ma ms 2) := by
        rw [mx_es, e16, mb_mk (i := 0) hoff hO e13 e14 (by decide), mb_mk (i := 1) hoff hO e13 e14 (by decide), mb_mk (i := 2) hoff hO e13 e14 (by decide)]
        rfl
      have hff : mx_f q = mg_f (mc_cut 108) (ms 20) := by rw [mg_f_eq hk, mx_f, e16, e12]
      rw [e16, hff] at htm
      rw [e16] at hfew hin hout
      have hv : mz_al ha (ma 4) 108 (q 17) (q 18) (q 19) (ms 19) (ms 23) (mg_S ma) T s R X Y Z (mx_es ha (mm_a ma) q) = (mx_al ha (mg_S ma) T (mm_a ma) q s R X Y Z) := by
        rw [mz_al, mx_al, mx_tool, e16, e10, e15]
        rfl
      refine sp126 (c := c) (s := s) (R := R) (X := X) (Y := Y) (Z := Z) (T := T) (es := mx_es ha (mm_a ma) q) hes hk hB hT hm1 (fun _ => hO) hli hb1 hb2 hb3 hfew hin hout htm (fun mb ms9 h1 h2 h3 => ?_) (fun mb ms9 h1 h2 h3 h4 h5 h6 h7 h8 h9 => ?_)
      · rw [hv] at h1 ⊢
        refine s_ireturn hP t133_86 rfl mx_al_nar ?_
        exact ka mb ms9 h1 h2 h3
      · rw [hv] at h1
        refine s_ireturn hP t133_86 rfl rfl ?_
        refine kf mb ms9 _ h1 ⟨fun i h4 h8 h9 h11 h12 h14 => h2 i h4 h11 h12 h14, fun j hj => h3 j (by omega)⟩ h4 (sx_go_M hmv (fun c hc => ?_) (fun j hj => ?_) (fun j hj => ?_) (fun p hp h10 => ?_) ?_ ?_ (fun j hj hj2 hj3 => ?_) ?_ (fun r hr => ?_))
        · show _ = mb 4 c
          rw [mx_u, e16, e10, h6]
          rfl
        · show ma 9 j = mb 9 j
          rw [h2 9 (by decide) (by decide) (by decide) (by decide)]
        · show _ = mb 11 j
          rw [mx_p, mp_3_j hj, e16, mb_mk (i := 0) hoff hO e13 e14 (by decide), mb_mk (i := 1) hoff hO e13 e14 (by decide), mb_mk (i := 2) hoff hO e13 e14 (by decide)]
          have : j = 0 ∨ j = 1 ∨ j = 2 := by omega
          rcases this with rfl | rfl | rfl
          · rw [if_pos rfl, h7]; rfl
          · rw [if_neg (by decide), if_pos rfl, h8]; rfl
          · rw [if_neg (by decide), if_neg (by decide), h9]; rfl
        · show ma 8 p = mb 8 p
          rw [h2 8 (by decide) (by decide) (by decide) (by decide)]
        · rw [e8]
          show ms 17 + 1 = ms9 17 + 1
          rw [h3 17 (by decide)]
        · rw [e9]
          show ms 18 + 1 = ms9 18 + 1
          rw [h3 18 (by decide)]
        · have : j = 10 ∨ j = 12 ∨ j = 13 ∨ j = 14 ∨ j = 15 := by omega
          rcases this with rfl | rfl | rfl | rfl | rfl
          · exact e10.trans (h3 19 (by decide)).symm
          · exact e12.trans (h3 20 (by decide)).symm
          · exact e13.trans (h3 21 (by decide)).symm
          · exact e14.trans (h3 22 (by decide)).symm
          · exact e15.trans (h3 23 (by decide)).symm
        · rw [mx_t, hff]
          rfl
        · rw [mx_S, e16]
          exact (h5 r hr).symm
      
    · exact absurd rfl q62
set_option maxHeartbeats 4000000 in
theorem sp133_100 {d : Nat} {K : am_K} {ha : Nat → Nat → Int32} {hz : Int32} {a1 : Nat → Nat → Int32} {s1 : Nat → Int32} {t1 : UInt32} {a2 : Nat → Nat → Int32} {s2 : Nat → Int32} {t2 : UInt32} {al : Int32} {ma : Nat → Nat → Int32} {ms : Nat → Int32} {mt : UInt32} {ol : Nat → Int64} {od : Nat → UInt64} {T : Nat → Bool} {N M c s R X Y Z : Nat} {q : Nat → Int32} (hq : q = mx_q4 ha N (mm_a ma) (mm_s ms)) (hN : ms 17 = nI N) (hNM : N < M) (hM : hz = nI M) (hM9 : M ≤ 64) (hkd : ∀ i, i < M → ma 1 i = ha 5 i) (hta : ∀ i, i < M → ma 5 i = ha 6 i) (htb : ∀ i, i < M → ma 6 i = ha 7 i) (htc : ∀ i, i < M → ma 7 i = ha 8 i) (htm9 : ∀ i, i < M → mi_term (ha 6 i) = true ∧ mi_term (ha 7 i) = true ∧ mi_term (ha 8 i) = true) (hsh0 : ∀ c, c < 12 → ma 0 c = if ha 0 c = 0 then 45 else ha 0 c) (hshv : ∀ c, c < 12 → ha 0 c = 0 ∨ ha 0 c = 101 ∨ ha 0 c = 98 ∨ ha 0 c = 118) (hrad : ∀ c, c < 12 → ma 2 c = ha 1 c) (hli : ∀ c, c < 12 → ma 3 c = ha 2 c) (hoff : ∀ j, j < 12 → ma 10 j = ha 4 j) (hB : mg_B ma) (hT : ∀ q, q < 1152 → ma 13 q = am_b (T q)) (hm1 : ms 19 = -1 ∨ mg_req ma ms c s R) (hX : ma 11 0 = nI X) (hY : ma 11 1 = nI Y) (hZ : ma 11 2 = nI Z) (hX9 : X < 16) (hY9 : Y < 12) (hZ9 : Z < 10) (hO : ∃ O, ms 21 = nI O ∧ O < 4) (hb1 : mi_iw (q 17) (-50) 50 = true) (hb2 : mi_iw (q 18) (-50) 50 = true) (hb3 : mi_iw (q 19) (-50) 50 = true) (hfew : mc_told ha (q 16) (q 17) (q 18) (q 19) = true → ∀ e ∈ mx_es ha (mm_a ma) q, mg_few e) (hin : mc_told ha (q 16) (q 17) (q 18) (q 19) = true → (∀ e ∈ mx_es ha (mm_a ma) q, ml_ins e = true) → ∀ e ∈ mx_es ha (mm_a ma) q, ml_inn e) (hout : mc_told ha (q 16) (q 17) (q 18) (q 19) = true → (∀ e ∈ mx_es ha (mm_a ma) q, ∀ i, 1 ≤ i → i ≤ ml_N e → mg_at e i = true) → ∀ e ∈ mx_es ha (mm_a ma) q, ml_ins e = true) (htm : mc_told ha (q 16) (q 17) (q 18) (q 19) = true → (∀ e ∈ mx_es ha (mm_a ma) q, ml_inn e) → vf_n32 (mx_f q) ∧ ml_tok (mx_f q) (mx_es ha (mm_a ma) q) mt) (hW : mw_W (ha 5) M) (hP9 : mw_P (ha 5) (ha 9) M) (ka : ∀ (mb : Nat → Nat → Int32) (ms9 : Nat → Int32), ¬ (mx_al ha (mg_S ma) T (mm_a ma) q s R X Y Z) = 45 → (∀ i, i ≠ 12 → mb i = ma i) → (∀ j, j ≠ 26 → ms9 j = ms j) → K (some (.int (mx_al ha (mg_S ma) T (mm_a ma) q s R X Y Z))) (am_W ha hz a1 s1 t1 a2 s2 t2 al mb ms9 mt ol od)) (kf : ∀ (mb : Nat → Nat → Int32) (ms9 : Nat → Int32) (t9 : UInt32), (mx_al ha (mg_S ma) T (mm_a ma) q s R X Y Z) = 45 → mm_ok ma ms mb ms9 → mg_B mb → sx_E (ha 5) (mx_Q ha hz N (mm_a ma) q s R (mg_S ma) 8).toNatClampNeg (sx_go ha hz N (mm_a ma) q s R X Y Z (mg_S ma) mt) (mm_x mb (mm_up ms9) t9) → K (some (.int 45)) (am_W ha hz a1 s1 t1 a2 s2 t2 al mb ms9 t9 ol od)) (hk9 : ha 5 N = 100) : am_Run (d + 7) 133 [.ref 39] (am_W ha hz a1 s1 t1 a2 s2 t2 al ma ms mt ol od) K := by
  have e16 : q 16 = 100 := by rw [hq]; exact hk9
  have e17 : q 17 = mc_val (ma 9) (ha 6 N) := by rw [hq]; rfl
  have e18 : q 18 = mc_val (ma 9) (ha 7 N) := by rw [hq]; rfl
  have e19 : q 19 = mc_val (ma 9) (ha 8 N) := by rw [hq]; rfl
  have e10 : q 10 = ms 19 := by rw [hq]; rfl
  have e12 : q 12 = ms 20 := by rw [hq]; rfl
  have e13 : q 13 = ms 21 := by rw [hq]; rfl
  have e14 : q 14 = ms 22 := by rw [hq]; rfl
  have e15 : q 15 = ms 23 := by rw [hq]; rfl
  have e8 : q 8 = ms 17 := by rw [hq]; rfl
  have e9 : q 9 = ms 18 := by rw [hq]; rfl
  have n116 : ¬ q 16 = 116 := by rw [e16]; decide
  have n120 : ¬ q 16 = 120 := by rw [e16]; decide
  have hmv : mx_mv (q 16) := by rw [e16]; unfold mx_mv; decide
  refine ⟨rfl, fun P hm hP => ?_⟩
  show P 0 [some (.ref 39), none, none, none, none] [] _ 0 0
  refine s_aload_n hP t133_0 rfl ?_
  refine s_getfield hP t133_1 rfl rfl ?_
  refine s_aload_n hP t133_4 rfl ?_
  refine s_getfield hP t133_5 rfl rfl ?_
  refine s_caload hP t133_8 rfl (by rw [hN]; exact vp_in_nI (by omega) (by decide)) ?_
  rw [hN, nI_clamp (by omega), hkd N hNM, hk9]
  refine s_istore_n_1 hP t133_9 (by exact rfl) ?_
  refine s_aload_n hP t133_10 rfl ?_
  refine s_aload_n hP t133_11 rfl ?_
  refine s_getfield hP t133_12 rfl rfl ?_
  refine s_aload_n hP t133_15 rfl ?_
  refine s_getfield hP t133_16 rfl rfl ?_
  refine s_iaload hP t133_19 rfl (by rw [hN]; exact vp_in_nI (by omega) (by decide)) ?_
  rw [hN, nI_clamp (by omega), hta N hNM]
  refine s_invokevirtual (bc' := 0) (bs' := 0) hP t133_20 rfl rfl rfl rfl rfl ?_
  refine sp132 (htm9 N hNM).1 ?_
  refine s_istore_n_2 hP t133_23 (by exact rfl) ?_
  refine s_aload_n hP t133_24 rfl ?_
  refine s_aload_n hP t133_25 rfl ?_
  refine s_getfield hP t133_26 rfl rfl ?_
  refine s_aload_n hP t133_29 rfl ?_
  refine s_getfield hP t133_30 rfl rfl ?_
  refine s_iaload hP t133_33 rfl (by rw [hN]; exact vp_in_nI (by omega) (by decide)) ?_
  rw [hN, nI_clamp (by omega), htb N hNM]
  refine s_invokevirtual (bc' := 0) (bs' := 0) hP t133_34 rfl rfl rfl rfl rfl ?_
  refine sp132 (htm9 N hNM).2.1 ?_
  refine s_istore_n_3 hP t133_37 (by exact rfl) ?_
  refine s_aload_n hP t133_38 rfl ?_
  refine s_aload_n hP t133_39 rfl ?_
  refine s_getfield hP t133_40 rfl rfl ?_
  refine s_aload_n hP t133_43 rfl ?_
  refine s_getfield hP t133_44 rfl rfl ?_
  refine s_iaload hP t133_47 rfl (by rw [hN]; exact vp_in_nI (by omega) (by decide)) ?_
  rw [hN, nI_clamp (by omega), htc N hNM]
  refine s_invokevirtual (bc' := 0) (bs' := 0) hP t133_48 rfl rfl rfl rfl rfl ?_
  refine sp132 (htm9 N hNM).2.2 ?_
  refine s_istore_4 hP t133_51 (by exact rfl) ?_
  rw [← e17, ← e18, ← e19]
  refine s_iload_n hP t133_53 rfl ?_
  refine s_bipush (v := 103) hP t133_54 (by decide) ?_
  refine s_icmp_eq hP t133_56 (fun q56 => ?_) (fun q56 => ?_)
  · exact absurd q56 (by decide)
  · refine s_iload_n hP t133_59 rfl ?_
    refine s_bipush (v := 108) hP t133_60 (by decide) ?_
    refine s_icmp_eq hP t133_62 (fun q62 => ?_) (fun q62 => ?_)
    · exact absurd q62 (by decide)
    · refine s_iload_n hP t133_65 rfl ?_
      refine s_bipush (v := 100) hP t133_66 (by decide) ?_
      refine s_icmp_eq hP t133_68 (fun q68 => ?_) (fun q68 => ?_)
      · refine s_aload_n hP t133_77 rfl ?_
        refine s_iload_n hP t133_78 rfl ?_
        refine s_iload_n hP t133_79 rfl ?_
        refine s_iload_n hP t133_80 rfl ?_
        refine s_iload hP t133_81 rfl ?_
        refine s_invokevirtual (bc' := 0) (bs' := 0) hP t133_83 rfl rfl rfl rfl rfl ?_
        have hk : (100 : Int32) = 103 ∨ (100 : Int32) = 108 ∨ (100 : Int32) = 100 ∨ (100 : Int32) = 112 := by decide
        have hes : mx_es ha (mm_a ma) q = ml_legs 100 (q 17) (q 18) (q 19) (ma 11 0) (ma 11 1) (ma 11 2) (mk_b ma ms 0) (mk_b ma ms 1) (mk_b ma ms 2) := by
          rw [mx_es, e16, mb_mk (i := 0) hoff hO e13 e14 (by decide), mb_mk (i := 1) hoff hO e13 e14 (by decide), mb_mk (i := 2) hoff hO e13 e14 (by decide)]
          rfl
        have hff : mx_f q = mg_f (mc_cut 100) (ms 20) := by rw [mg_f_eq hk, mx_f, e16, e12]
        rw [e16, hff] at htm
        rw [e16] at hfew hin hout
        have hv : mz_al ha (ma 4) 100 (q 17) (q 18) (q 19) (ms 19) (ms 23) (mg_S ma) T s R X Y Z (mx_es ha (mm_a ma) q) = (mx_al ha (mg_S ma) T (mm_a ma) q s R X Y Z) := by
          rw [mz_al, mx_al, mx_tool, e16, e10, e15]
          rfl
        refine sp126 (c := c) (s := s) (R := R) (X := X) (Y := Y) (Z := Z) (T := T) (es := mx_es ha (mm_a ma) q) hes hk hB hT hm1 (fun _ => hO) hli hb1 hb2 hb3 hfew hin hout htm (fun mb ms9 h1 h2 h3 => ?_) (fun mb ms9 h1 h2 h3 h4 h5 h6 h7 h8 h9 => ?_)
        · rw [hv] at h1 ⊢
          refine s_ireturn hP t133_86 rfl mx_al_nar ?_
          exact ka mb ms9 h1 h2 h3
        · rw [hv] at h1
          refine s_ireturn hP t133_86 rfl rfl ?_
          refine kf mb ms9 _ h1 ⟨fun i h4 h8 h9 h11 h12 h14 => h2 i h4 h11 h12 h14, fun j hj => h3 j (by omega)⟩ h4 (sx_go_M hmv (fun c hc => ?_) (fun j hj => ?_) (fun j hj => ?_) (fun p hp h10 => ?_) ?_ ?_ (fun j hj hj2 hj3 => ?_) ?_ (fun r hr => ?_))
          · show _ = mb 4 c
            rw [mx_u, e16, e10, h6]
            rfl
          · show ma 9 j = mb 9 j
            rw [h2 9 (by decide) (by decide) (by decide) (by decide)]
          · show _ = mb 11 j
            rw [mx_p, mp_3_j hj, e16, mb_mk (i := 0) hoff hO e13 e14 (by decide), mb_mk (i := 1) hoff hO e13 e14 (by decide), mb_mk (i := 2) hoff hO e13 e14 (by decide)]
            have : j = 0 ∨ j = 1 ∨ j = 2 := by omega
            rcases this with rfl | rfl | rfl
            · rw [if_pos rfl, h7]; rfl
            · rw [if_neg (by decide), if_pos rfl, h8]; rfl
            · rw [if_neg (by decide), if_neg (by decide), h9]; rfl
          · show ma 8 p = mb 8 p
            rw [h2 8 (by decide) (by decide) (by decide) (by decide)]
          · rw [e8]
            show ms 17 + 1 = ms9 17 + 1
            rw [h3 17 (by decide)]
          · rw [e9]
            show ms 18 + 1 = ms9 18 + 1
            rw [h3 18 (by decide)]
          · have : j = 10 ∨ j = 12 ∨ j = 13 ∨ j = 14 ∨ j = 15 := by omega
            rcases this with rfl | rfl | rfl | rfl | rfl
            · exact e10.trans (h3 19 (by decide)).symm
            · exact e12.trans (h3 20 (by decide)).symm
            · exact e13.trans (h3 21 (by decide)).symm
            · exact e14.trans (h3 22 (by decide)).symm
            · exact e15.trans (h3 23 (by decide)).symm
          · rw [mx_t, hff]
            rfl
          · rw [mx_S, e16]
            exact (h5 r hr).symm
        
      · exact absurd rfl q68
set_option maxHeartbeats 4000000 in
theorem sp133_112 {d : Nat} {K : am_K} {ha : Nat → Nat → Int32} {hz : Int32} {a1 : Nat → Nat → Int32} {s1 : Nat → Int32} {t1 : UInt32} {a2 : Nat → Nat → Int32} {s2 : Nat → Int32} {t2 : UInt32} {al : Int32} {ma : Nat → Nat → Int32} {ms : Nat → Int32} {mt : UInt32} {ol : Nat → Int64} {od : Nat → UInt64} {T : Nat → Bool} {N M c s R X Y Z : Nat} {q : Nat → Int32} (hq : q = mx_q4 ha N (mm_a ma) (mm_s ms)) (hN : ms 17 = nI N) (hNM : N < M) (hM : hz = nI M) (hM9 : M ≤ 64) (hkd : ∀ i, i < M → ma 1 i = ha 5 i) (hta : ∀ i, i < M → ma 5 i = ha 6 i) (htb : ∀ i, i < M → ma 6 i = ha 7 i) (htc : ∀ i, i < M → ma 7 i = ha 8 i) (htm9 : ∀ i, i < M → mi_term (ha 6 i) = true ∧ mi_term (ha 7 i) = true ∧ mi_term (ha 8 i) = true) (hsh0 : ∀ c, c < 12 → ma 0 c = if ha 0 c = 0 then 45 else ha 0 c) (hshv : ∀ c, c < 12 → ha 0 c = 0 ∨ ha 0 c = 101 ∨ ha 0 c = 98 ∨ ha 0 c = 118) (hrad : ∀ c, c < 12 → ma 2 c = ha 1 c) (hli : ∀ c, c < 12 → ma 3 c = ha 2 c) (hoff : ∀ j, j < 12 → ma 10 j = ha 4 j) (hB : mg_B ma) (hT : ∀ q, q < 1152 → ma 13 q = am_b (T q)) (hm1 : ms 19 = -1 ∨ mg_req ma ms c s R) (hX : ma 11 0 = nI X) (hY : ma 11 1 = nI Y) (hZ : ma 11 2 = nI Z) (hX9 : X < 16) (hY9 : Y < 12) (hZ9 : Z < 10) (hO : ∃ O, ms 21 = nI O ∧ O < 4) (hb1 : mi_iw (q 17) (-50) 50 = true) (hb2 : mi_iw (q 18) (-50) 50 = true) (hb3 : mi_iw (q 19) (-50) 50 = true) (hfew : mc_told ha (q 16) (q 17) (q 18) (q 19) = true → ∀ e ∈ mx_es ha (mm_a ma) q, mg_few e) (hin : mc_told ha (q 16) (q 17) (q 18) (q 19) = true → (∀ e ∈ mx_es ha (mm_a ma) q, ml_ins e = true) → ∀ e ∈ mx_es ha (mm_a ma) q, ml_inn e) (hout : mc_told ha (q 16) (q 17) (q 18) (q 19) = true → (∀ e ∈ mx_es ha (mm_a ma) q, ∀ i, 1 ≤ i → i ≤ ml_N e → mg_at e i = true) → ∀ e ∈ mx_es ha (mm_a ma) q, ml_ins e = true) (htm : mc_told ha (q 16) (q 17) (q 18) (q 19) = true → (∀ e ∈ mx_es ha (mm_a ma) q, ml_inn e) → vf_n32 (mx_f q) ∧ ml_tok (mx_f q) (mx_es ha (mm_a ma) q) mt) (hW : mw_W (ha 5) M) (hP9 : mw_P (ha 5) (ha 9) M) (ka : ∀ (mb : Nat → Nat → Int32) (ms9 : Nat → Int32), ¬ (mx_al ha (mg_S ma) T (mm_a ma) q s R X Y Z) = 45 → (∀ i, i ≠ 12 → mb i = ma i) → (∀ j, j ≠ 26 → ms9 j = ms j) → K (some (.int (mx_al ha (mg_S ma) T (mm_a ma) q s R X Y Z))) (am_W ha hz a1 s1 t1 a2 s2 t2 al mb ms9 mt ol od)) (kf : ∀ (mb : Nat → Nat → Int32) (ms9 : Nat → Int32) (t9 : UInt32), (mx_al ha (mg_S ma) T (mm_a ma) q s R X Y Z) = 45 → mm_ok ma ms mb ms9 → mg_B mb → sx_E (ha 5) (mx_Q ha hz N (mm_a ma) q s R (mg_S ma) 8).toNatClampNeg (sx_go ha hz N (mm_a ma) q s R X Y Z (mg_S ma) mt) (mm_x mb (mm_up ms9) t9) → K (some (.int 45)) (am_W ha hz a1 s1 t1 a2 s2 t2 al mb ms9 t9 ol od)) (hk9 : ha 5 N = 112) : am_Run (d + 7) 133 [.ref 39] (am_W ha hz a1 s1 t1 a2 s2 t2 al ma ms mt ol od) K := by
  have e16 : q 16 = 112 := by rw [hq]; exact hk9
  have e17 : q 17 = mc_val (ma 9) (ha 6 N) := by rw [hq]; rfl
  have e18 : q 18 = mc_val (ma 9) (ha 7 N) := by rw [hq]; rfl
  have e19 : q 19 = mc_val (ma 9) (ha 8 N) := by rw [hq]; rfl
  have e10 : q 10 = ms 19 := by rw [hq]; rfl
  have e12 : q 12 = ms 20 := by rw [hq]; rfl
  have e13 : q 13 = ms 21 := by rw [hq]; rfl
  have e14 : q 14 = ms 22 := by rw [hq]; rfl
  have e15 : q 15 = ms 23 := by rw [hq]; rfl
  have e8 : q 8 = ms 17 := by rw [hq]; rfl
  have e9 : q 9 = ms 18 := by rw [hq]; rfl
  have n116 : ¬ q 16 = 116 := by rw [e16]; decide
  have n120 : ¬ q 16 = 120 := by rw [e16]; decide
  have hmv : mx_mv (q 16) := by rw [e16]; unfold mx_mv; decide
  refine ⟨rfl, fun P hm hP => ?_⟩
  show P 0 [some (.ref 39), none, none, none, none] [] _ 0 0
  refine s_aload_n hP t133_0 rfl ?_
  refine s_getfield hP t133_1 rfl rfl ?_
  refine s_aload_n hP t133_4 rfl ?_
  refine s_getfield hP t133_5 rfl rfl ?_
  refine s_caload hP t133_8 rfl (by rw [hN]; exact vp_in_nI (by omega) (by decide)) ?_
  rw [hN, nI_clamp (by omega), hkd N hNM, hk9]
  refine s_istore_n_1 hP t133_9 (by exact rfl) ?_
  refine s_aload_n hP t133_10 rfl ?_
  refine s_aload_n hP t133_11 rfl ?_
  refine s_getfield hP t133_12 rfl rfl ?_
  refine s_aload_n hP t133_15 rfl ?_
  refine s_getfield hP t133_16 rfl rfl ?_
  refine s_iaload hP t133_19 rfl (by rw [hN]; exact vp_in_nI (by omega) (by decide)) ?_
  rw [hN, nI_clamp (by omega), hta N hNM]
  refine s_invokevirtual (bc' := 0) (bs' := 0) hP t133_20 rfl rfl rfl rfl rfl ?_
  refine sp132 (htm9 N hNM).1 ?_
  refine s_istore_n_2 hP t133_23 (by exact rfl) ?_
  refine s_aload_n hP t133_24 rfl ?_
  refine s_aload_n hP t133_25 rfl ?_
  refine s_getfield hP t133_26 rfl rfl ?_
  refine s_aload_n hP t133_29 rfl ?_
  refine s_getfield hP t133_30 rfl rfl ?_
  refine s_iaload hP t133_33 rfl (by rw [hN]; exact vp_in_nI (by omega) (by decide)) ?_
  rw [hN, nI_clamp (by omega), htb N hNM]
  refine s_invokevirtual (bc' := 0) (bs' := 0) hP t133_34 rfl rfl rfl rfl rfl ?_
  refine sp132 (htm9 N hNM).2.1 ?_
  refine s_istore_n_3 hP t133_37 (by exact rfl) ?_
  refine s_aload_n hP t133_38 rfl ?_
  refine s_aload_n hP t133_39 rfl ?_
  refine s_getfield hP t133_40 rfl rfl ?_
  refine s_aload_n hP t133_43 rfl ?_
  refine s_getfield hP t133_44 rfl rfl ?_
  refine s_iaload hP t133_47 rfl (by rw [hN]; exact vp_in_nI (by omega) (by decide)) ?_
  rw [hN, nI_clamp (by omega), htc N hNM]
  refine s_invokevirtual (bc' := 0) (bs' := 0) hP t133_48 rfl rfl rfl rfl rfl ?_
  refine sp132 (htm9 N hNM).2.2 ?_
  refine s_istore_4 hP t133_51 (by exact rfl) ?_
  rw [← e17, ← e18, ← e19]
  refine s_iload_n hP t133_53 rfl ?_
  refine s_bipush (v := 103) hP t133_54 (by decide) ?_
  refine s_icmp_eq hP t133_56 (fun q56 => ?_) (fun q56 => ?_)
  · exact absurd q56 (by decide)
  · refine s_iload_n hP t133_59 rfl ?_
    refine s_bipush (v := 108) hP t133_60 (by decide) ?_
    refine s_icmp_eq hP t133_62 (fun q62 => ?_) (fun q62 => ?_)
    · exact absurd q62 (by decide)
    · refine s_iload_n hP t133_65 rfl ?_
      refine s_bipush (v := 100) hP t133_66 (by decide) ?_
      refine s_icmp_eq hP t133_68 (fun q68 => ?_) (fun q68 => ?_)
      · exact absurd q68 (by decide)
      · refine s_iload_n hP t133_71 rfl ?_
        refine s_bipush (v := 112) hP t133_72 (by decide) ?_
        refine s_icmp_ne hP t133_74 (fun q74 => ?_) (fun q74 => ?_)
        · exact absurd rfl q74
        · refine s_aload_n hP t133_77 rfl ?_
          refine s_iload_n hP t133_78 rfl ?_
          refine s_iload_n hP t133_79 rfl ?_
          refine s_iload_n hP t133_80 rfl ?_
          refine s_iload hP t133_81 rfl ?_
          refine s_invokevirtual (bc' := 0) (bs' := 0) hP t133_83 rfl rfl rfl rfl rfl ?_
          have hk : (112 : Int32) = 103 ∨ (112 : Int32) = 108 ∨ (112 : Int32) = 100 ∨ (112 : Int32) = 112 := by decide
          have hes : mx_es ha (mm_a ma) q = ml_legs 112 (q 17) (q 18) (q 19) (ma 11 0) (ma 11 1) (ma 11 2) (mk_b ma ms 0) (mk_b ma ms 1) (mk_b ma ms 2) := by
            rw [mx_es, e16, mb_mk (i := 0) hoff hO e13 e14 (by decide), mb_mk (i := 1) hoff hO e13 e14 (by decide), mb_mk (i := 2) hoff hO e13 e14 (by decide)]
            rfl
          have hff : mx_f q = mg_f (mc_cut 112) (ms 20) := by rw [mg_f_eq hk, mx_f, e16, e12]
          rw [e16, hff] at htm
          rw [e16] at hfew hin hout
          have hv : mz_al ha (ma 4) 112 (q 17) (q 18) (q 19) (ms 19) (ms 23) (mg_S ma) T s R X Y Z (mx_es ha (mm_a ma) q) = (mx_al ha (mg_S ma) T (mm_a ma) q s R X Y Z) := by
            rw [mz_al, mx_al, mx_tool, e16, e10, e15]
            rfl
          refine sp126 (c := c) (s := s) (R := R) (X := X) (Y := Y) (Z := Z) (T := T) (es := mx_es ha (mm_a ma) q) hes hk hB hT hm1 (fun _ => hO) hli hb1 hb2 hb3 hfew hin hout htm (fun mb ms9 h1 h2 h3 => ?_) (fun mb ms9 h1 h2 h3 h4 h5 h6 h7 h8 h9 => ?_)
          · rw [hv] at h1 ⊢
            refine s_ireturn hP t133_86 rfl mx_al_nar ?_
            exact ka mb ms9 h1 h2 h3
          · rw [hv] at h1
            refine s_ireturn hP t133_86 rfl rfl ?_
            refine kf mb ms9 _ h1 ⟨fun i h4 h8 h9 h11 h12 h14 => h2 i h4 h11 h12 h14, fun j hj => h3 j (by omega)⟩ h4 (sx_go_M hmv (fun c hc => ?_) (fun j hj => ?_) (fun j hj => ?_) (fun p hp h10 => ?_) ?_ ?_ (fun j hj hj2 hj3 => ?_) ?_ (fun r hr => ?_))
            · show _ = mb 4 c
              rw [mx_u, e16, e10, h6]
              rfl
            · show ma 9 j = mb 9 j
              rw [h2 9 (by decide) (by decide) (by decide) (by decide)]
            · show _ = mb 11 j
              rw [mx_p, mp_3_j hj, e16, mb_mk (i := 0) hoff hO e13 e14 (by decide), mb_mk (i := 1) hoff hO e13 e14 (by decide), mb_mk (i := 2) hoff hO e13 e14 (by decide)]
              have : j = 0 ∨ j = 1 ∨ j = 2 := by omega
              rcases this with rfl | rfl | rfl
              · rw [if_pos rfl, h7]; rfl
              · rw [if_neg (by decide), if_pos rfl, h8]; rfl
              · rw [if_neg (by decide), if_neg (by decide), h9]; rfl
            · show ma 8 p = mb 8 p
              rw [h2 8 (by decide) (by decide) (by decide) (by decide)]
            · rw [e8]
              show ms 17 + 1 = ms9 17 + 1
              rw [h3 17 (by decide)]
            · rw [e9]
              show ms 18 + 1 = ms9 18 + 1
              rw [h3 18 (by decide)]
            · have : j = 10 ∨ j = 12 ∨ j = 13 ∨ j = 14 ∨ j = 15 := by omega
              rcases this with rfl | rfl | rfl | rfl | rfl
              · exact e10.trans (h3 19 (by decide)).symm
              · exact e12.trans (h3 20 (by decide)).symm
              · exact e13.trans (h3 21 (by decide)).symm
              · exact e14.trans (h3 22 (by decide)).symm
              · exact e15.trans (h3 23 (by decide)).symm
            · rw [mx_t, hff]
              rfl
            · rw [mx_S, e16]
              exact (h5 r hr).symm
          
set_option maxHeartbeats 4000000 in
theorem sp133_113 {d : Nat} {K : am_K} {ha : Nat → Nat → Int32} {hz : Int32} {a1 : Nat → Nat → Int32} {s1 : Nat → Int32} {t1 : UInt32} {a2 : Nat → Nat → Int32} {s2 : Nat → Int32} {t2 : UInt32} {al : Int32} {ma : Nat → Nat → Int32} {ms : Nat → Int32} {mt : UInt32} {ol : Nat → Int64} {od : Nat → UInt64} {T : Nat → Bool} {N M c s R X Y Z : Nat} {q : Nat → Int32} (hq : q = mx_q4 ha N (mm_a ma) (mm_s ms)) (hN : ms 17 = nI N) (hNM : N < M) (hM : hz = nI M) (hM9 : M ≤ 64) (hkd : ∀ i, i < M → ma 1 i = ha 5 i) (hta : ∀ i, i < M → ma 5 i = ha 6 i) (htb : ∀ i, i < M → ma 6 i = ha 7 i) (htc : ∀ i, i < M → ma 7 i = ha 8 i) (htm9 : ∀ i, i < M → mi_term (ha 6 i) = true ∧ mi_term (ha 7 i) = true ∧ mi_term (ha 8 i) = true) (hsh0 : ∀ c, c < 12 → ma 0 c = if ha 0 c = 0 then 45 else ha 0 c) (hshv : ∀ c, c < 12 → ha 0 c = 0 ∨ ha 0 c = 101 ∨ ha 0 c = 98 ∨ ha 0 c = 118) (hrad : ∀ c, c < 12 → ma 2 c = ha 1 c) (hli : ∀ c, c < 12 → ma 3 c = ha 2 c) (hoff : ∀ j, j < 12 → ma 10 j = ha 4 j) (hB : mg_B ma) (hT : ∀ q, q < 1152 → ma 13 q = am_b (T q)) (hm1 : ms 19 = -1 ∨ mg_req ma ms c s R) (hX : ma 11 0 = nI X) (hY : ma 11 1 = nI Y) (hZ : ma 11 2 = nI Z) (hX9 : X < 16) (hY9 : Y < 12) (hZ9 : Z < 10) (hO : ∃ O, ms 21 = nI O ∧ O < 4) (hb1 : mi_iw (q 17) (-50) 50 = true) (hb2 : mi_iw (q 18) (-50) 50 = true) (hb3 : mi_iw (q 19) (-50) 50 = true) (hfew : mc_told ha (q 16) (q 17) (q 18) (q 19) = true → ∀ e ∈ mx_es ha (mm_a ma) q, mg_few e) (hin : mc_told ha (q 16) (q 17) (q 18) (q 19) = true → (∀ e ∈ mx_es ha (mm_a ma) q, ml_ins e = true) → ∀ e ∈ mx_es ha (mm_a ma) q, ml_inn e) (hout : mc_told ha (q 16) (q 17) (q 18) (q 19) = true → (∀ e ∈ mx_es ha (mm_a ma) q, ∀ i, 1 ≤ i → i ≤ ml_N e → mg_at e i = true) → ∀ e ∈ mx_es ha (mm_a ma) q, ml_ins e = true) (htm : mc_told ha (q 16) (q 17) (q 18) (q 19) = true → (∀ e ∈ mx_es ha (mm_a ma) q, ml_inn e) → vf_n32 (mx_f q) ∧ ml_tok (mx_f q) (mx_es ha (mm_a ma) q) mt) (hW : mw_W (ha 5) M) (hP9 : mw_P (ha 5) (ha 9) M) (ka : ∀ (mb : Nat → Nat → Int32) (ms9 : Nat → Int32), ¬ (mx_al ha (mg_S ma) T (mm_a ma) q s R X Y Z) = 45 → (∀ i, i ≠ 12 → mb i = ma i) → (∀ j, j ≠ 26 → ms9 j = ms j) → K (some (.int (mx_al ha (mg_S ma) T (mm_a ma) q s R X Y Z))) (am_W ha hz a1 s1 t1 a2 s2 t2 al mb ms9 mt ol od)) (kf : ∀ (mb : Nat → Nat → Int32) (ms9 : Nat → Int32) (t9 : UInt32), (mx_al ha (mg_S ma) T (mm_a ma) q s R X Y Z) = 45 → mm_ok ma ms mb ms9 → mg_B mb → sx_E (ha 5) (mx_Q ha hz N (mm_a ma) q s R (mg_S ma) 8).toNatClampNeg (sx_go ha hz N (mm_a ma) q s R X Y Z (mg_S ma) mt) (mm_x mb (mm_up ms9) t9) → K (some (.int 45)) (am_W ha hz a1 s1 t1 a2 s2 t2 al mb ms9 t9 ol od)) (hk9 : ha 5 N = 113) : am_Run (d + 7) 133 [.ref 39] (am_W ha hz a1 s1 t1 a2 s2 t2 al ma ms mt ol od) K := by
  have e16 : q 16 = 113 := by rw [hq]; exact hk9
  have e17 : q 17 = mc_val (ma 9) (ha 6 N) := by rw [hq]; rfl
  have e18 : q 18 = mc_val (ma 9) (ha 7 N) := by rw [hq]; rfl
  have e19 : q 19 = mc_val (ma 9) (ha 8 N) := by rw [hq]; rfl
  have e10 : q 10 = ms 19 := by rw [hq]; rfl
  have e12 : q 12 = ms 20 := by rw [hq]; rfl
  have e13 : q 13 = ms 21 := by rw [hq]; rfl
  have e14 : q 14 = ms 22 := by rw [hq]; rfl
  have e15 : q 15 = ms 23 := by rw [hq]; rfl
  have e8 : q 8 = ms 17 := by rw [hq]; rfl
  have e9 : q 9 = ms 18 := by rw [hq]; rfl
  have n116 : ¬ q 16 = 116 := by rw [e16]; decide
  have n120 : ¬ q 16 = 120 := by rw [e16]; decide
  have hmv : ¬ mx_mv (q 16) := by rw [e16]; unfold mx_mv; decide
  refine ⟨rfl, fun P hm hP => ?_⟩
  show P 0 [some (.ref 39), none, none, none, none] [] _ 0 0
  refine s_aload_n hP t133_0 rfl ?_
  refine s_getfield hP t133_1 rfl rfl ?_
  refine s_aload_n hP t133_4 rfl ?_
  refine s_getfield hP t133_5 rfl rfl ?_
  refine s_caload hP t133_8 rfl (by rw [hN]; exact vp_in_nI (by omega) (by decide)) ?_
  rw [hN, nI_clamp (by omega), hkd N hNM, hk9]
  refine s_istore_n_1 hP t133_9 (by exact rfl) ?_
  refine s_aload_n hP t133_10 rfl ?_
  refine s_aload_n hP t133_11 rfl ?_
  refine s_getfield hP t133_12 rfl rfl ?_
  refine s_aload_n hP t133_15 rfl ?_
  refine s_getfield hP t133_16 rfl rfl ?_
  refine s_iaload hP t133_19 rfl (by rw [hN]; exact vp_in_nI (by omega) (by decide)) ?_
  rw [hN, nI_clamp (by omega), hta N hNM]
  refine s_invokevirtual (bc' := 0) (bs' := 0) hP t133_20 rfl rfl rfl rfl rfl ?_
  refine sp132 (htm9 N hNM).1 ?_
  refine s_istore_n_2 hP t133_23 (by exact rfl) ?_
  refine s_aload_n hP t133_24 rfl ?_
  refine s_aload_n hP t133_25 rfl ?_
  refine s_getfield hP t133_26 rfl rfl ?_
  refine s_aload_n hP t133_29 rfl ?_
  refine s_getfield hP t133_30 rfl rfl ?_
  refine s_iaload hP t133_33 rfl (by rw [hN]; exact vp_in_nI (by omega) (by decide)) ?_
  rw [hN, nI_clamp (by omega), htb N hNM]
  refine s_invokevirtual (bc' := 0) (bs' := 0) hP t133_34 rfl rfl rfl rfl rfl ?_
  refine sp132 (htm9 N hNM).2.1 ?_
  refine s_istore_n_3 hP t133_37 (by exact rfl) ?_
  refine s_aload_n hP t133_38 rfl ?_
  refine s_aload_n hP t133_39 rfl ?_
  refine s_getfield hP t133_40 rfl rfl ?_
  refine s_aload_n hP t133_43 rfl ?_
  refine s_getfield hP t133_44 rfl rfl ?_
  refine s_iaload hP t133_47 rfl (by rw [hN]; exact vp_in_nI (by omega) (by decide)) ?_
  rw [hN, nI_clamp (by omega), htc N hNM]
  refine s_invokevirtual (bc' := 0) (bs' := 0) hP t133_48 rfl rfl rfl rfl rfl ?_
  refine sp132 (htm9 N hNM).2.2 ?_
  refine s_istore_4 hP t133_51 (by exact rfl) ?_
  rw [← e17, ← e18, ← e19]
  refine s_iload_n hP t133_53 rfl ?_
  refine s_bipush (v := 103) hP t133_54 (by decide) ?_
  refine s_icmp_eq hP t133_56 (fun q56 => ?_) (fun q56 => ?_)
  · exact absurd q56 (by decide)
  · refine s_iload_n hP t133_59 rfl ?_
    refine s_bipush (v := 108) hP t133_60 (by decide) ?_
    refine s_icmp_eq hP t133_62 (fun q62 => ?_) (fun q62 => ?_)
    · exact absurd q62 (by decide)
    · refine s_iload_n hP t133_65 rfl ?_
      refine s_bipush (v := 100) hP t133_66 (by decide) ?_
      refine s_icmp_eq hP t133_68 (fun q68 => ?_) (fun q68 => ?_)
      · exact absurd q68 (by decide)
      · refine s_iload_n hP t133_71 rfl ?_
        refine s_bipush (v := 112) hP t133_72 (by decide) ?_
        refine s_icmp_ne hP t133_74 (fun q74 => ?_) (fun q74 => ?_)
        · refine s_iload_n hP t133_87 rfl ?_
          refine s_bipush (v := 116) hP t133_88 (by decide) ?_
          refine s_icmp_ne hP t133_90 (fun q90 => ?_) (fun q90 => ?_)
          · refine s_iload_n hP t133_100 rfl ?_
            refine s_bipush (v := 120) hP t133_101 (by decide) ?_
            refine s_icmp_ne hP t133_103 (fun q103 => ?_) (fun q103 => ?_)
            · refine s_iload_n hP t133_112 rfl ?_
              refine s_bipush (v := 114) hP t133_113 (by decide) ?_
              refine s_icmp_eq hP t133_115 (fun q115 => ?_) (fun q115 => ?_)
              · exact absurd q115 (by decide)
              · refine s_iload_n hP t133_118 rfl ?_
                refine s_bipush (v := 105) hP t133_119 (by decide) ?_
                refine s_icmp_ne hP t133_121 (fun q121 => ?_) (fun q121 => ?_)
                · refine s_iload_n hP t133_132 rfl ?_
                  refine s_bipush (v := 113) hP t133_133 (by decide) ?_
                  refine s_icmp_ne hP t133_135 (fun q135 => ?_) (fun q135 => ?_)
                  · exact absurd rfl q135
                  · refine s_bipush (v := 45) hP t133_138 (by decide) ?_
                    refine s_ireturn hP t133_140 rfl rfl ?_
                    exact kf ma ms mt (mx_al_45 hmv n116 n120 (by rw [e16, told_113]; first | done | exact rfl)) ⟨fun i h4 h8 h9 h11 h12 h14 => rfl, fun j hj => rfl⟩ hB (sx_go_E (ha := ha) (hz := hz) (N := N) (a := mm_a ma) (q := q) (sh := s) (R := R) (X := X) (Y := Y) (Z := Z) (S := mg_S ma) (t := mt) hmv (fun c hc => rfl) (fun j hj => by rw [me_ar_2 (by rw [e16]; decide) (by rw [e16]; decide)]; rfl) (fun j hj => rfl) (fun p hp h5 => by rw [me_ar_4 (by rw [e16]; decide) (by rw [e16]; decide)]; rfl) (by rw [me_nx_no (by rw [e16]; decide) (by rw [e16]; decide), e8]; rfl) (by rw [e9]; rfl) (fun j hj hj2 hj3 => by
                      have : j = 10 ∨ j = 12 ∨ j = 13 ∨ j = 14 ∨ j = 15 := by omega
                      rcases this with rfl | rfl | rfl | rfl | rfl
                      · rw [me_st_no (by rw [e16]; decide) (by rw [e16]; decide) (by rw [e16]; decide) (by rw [e16]; decide) (by rw [e16]; decide)]; exact e10
                      · rw [me_st_no (by rw [e16]; decide) (by rw [e16]; decide) (by rw [e16]; decide) (by rw [e16]; decide) (by rw [e16]; decide)]; exact e12
                      · rw [me_st_no (by rw [e16]; decide) (by rw [e16]; decide) (by rw [e16]; decide) (by rw [e16]; decide) (by rw [e16]; decide)]; exact e13
                      · rw [me_st_no (by rw [e16]; decide) (by rw [e16]; decide) (by rw [e16]; decide) (by rw [e16]; decide) (by rw [e16]; decide)]; exact e14
                      · rw [me_st_no (by rw [e16]; decide) (by rw [e16]; decide) (by rw [e16]; decide) (by rw [e16]; decide) (by rw [e16]; decide)]; exact e15) (rfl) (fun r hr => rfl))
                · exact absurd q121 (by decide)
            · exact absurd q103 (by decide)
          · exact absurd q90 (by decide)
        · exact absurd q74 (by decide)
set_option maxHeartbeats 4000000 in
theorem sp133_115 {d : Nat} {K : am_K} {ha : Nat → Nat → Int32} {hz : Int32} {a1 : Nat → Nat → Int32} {s1 : Nat → Int32} {t1 : UInt32} {a2 : Nat → Nat → Int32} {s2 : Nat → Int32} {t2 : UInt32} {al : Int32} {ma : Nat → Nat → Int32} {ms : Nat → Int32} {mt : UInt32} {ol : Nat → Int64} {od : Nat → UInt64} {T : Nat → Bool} {N M c s R X Y Z : Nat} {q : Nat → Int32} (hq : q = mx_q4 ha N (mm_a ma) (mm_s ms)) (hN : ms 17 = nI N) (hNM : N < M) (hM : hz = nI M) (hM9 : M ≤ 64) (hkd : ∀ i, i < M → ma 1 i = ha 5 i) (hta : ∀ i, i < M → ma 5 i = ha 6 i) (htb : ∀ i, i < M → ma 6 i = ha 7 i) (htc : ∀ i, i < M → ma 7 i = ha 8 i) (htm9 : ∀ i, i < M → mi_term (ha 6 i) = true ∧ mi_term (ha 7 i) = true ∧ mi_term (ha 8 i) = true) (hsh0 : ∀ c, c < 12 → ma 0 c = if ha 0 c = 0 then 45 else ha 0 c) (hshv : ∀ c, c < 12 → ha 0 c = 0 ∨ ha 0 c = 101 ∨ ha 0 c = 98 ∨ ha 0 c = 118) (hrad : ∀ c, c < 12 → ma 2 c = ha 1 c) (hli : ∀ c, c < 12 → ma 3 c = ha 2 c) (hoff : ∀ j, j < 12 → ma 10 j = ha 4 j) (hB : mg_B ma) (hT : ∀ q, q < 1152 → ma 13 q = am_b (T q)) (hm1 : ms 19 = -1 ∨ mg_req ma ms c s R) (hX : ma 11 0 = nI X) (hY : ma 11 1 = nI Y) (hZ : ma 11 2 = nI Z) (hX9 : X < 16) (hY9 : Y < 12) (hZ9 : Z < 10) (hO : ∃ O, ms 21 = nI O ∧ O < 4) (hb1 : mi_iw (q 17) (-50) 50 = true) (hb2 : mi_iw (q 18) (-50) 50 = true) (hb3 : mi_iw (q 19) (-50) 50 = true) (hfew : mc_told ha (q 16) (q 17) (q 18) (q 19) = true → ∀ e ∈ mx_es ha (mm_a ma) q, mg_few e) (hin : mc_told ha (q 16) (q 17) (q 18) (q 19) = true → (∀ e ∈ mx_es ha (mm_a ma) q, ml_ins e = true) → ∀ e ∈ mx_es ha (mm_a ma) q, ml_inn e) (hout : mc_told ha (q 16) (q 17) (q 18) (q 19) = true → (∀ e ∈ mx_es ha (mm_a ma) q, ∀ i, 1 ≤ i → i ≤ ml_N e → mg_at e i = true) → ∀ e ∈ mx_es ha (mm_a ma) q, ml_ins e = true) (htm : mc_told ha (q 16) (q 17) (q 18) (q 19) = true → (∀ e ∈ mx_es ha (mm_a ma) q, ml_inn e) → vf_n32 (mx_f q) ∧ ml_tok (mx_f q) (mx_es ha (mm_a ma) q) mt) (hW : mw_W (ha 5) M) (hP9 : mw_P (ha 5) (ha 9) M) (ka : ∀ (mb : Nat → Nat → Int32) (ms9 : Nat → Int32), ¬ (mx_al ha (mg_S ma) T (mm_a ma) q s R X Y Z) = 45 → (∀ i, i ≠ 12 → mb i = ma i) → (∀ j, j ≠ 26 → ms9 j = ms j) → K (some (.int (mx_al ha (mg_S ma) T (mm_a ma) q s R X Y Z))) (am_W ha hz a1 s1 t1 a2 s2 t2 al mb ms9 mt ol od)) (kf : ∀ (mb : Nat → Nat → Int32) (ms9 : Nat → Int32) (t9 : UInt32), (mx_al ha (mg_S ma) T (mm_a ma) q s R X Y Z) = 45 → mm_ok ma ms mb ms9 → mg_B mb → sx_E (ha 5) (mx_Q ha hz N (mm_a ma) q s R (mg_S ma) 8).toNatClampNeg (sx_go ha hz N (mm_a ma) q s R X Y Z (mg_S ma) mt) (mm_x mb (mm_up ms9) t9) → K (some (.int 45)) (am_W ha hz a1 s1 t1 a2 s2 t2 al mb ms9 t9 ol od)) (hk9 : ha 5 N = 115) : am_Run (d + 7) 133 [.ref 39] (am_W ha hz a1 s1 t1 a2 s2 t2 al ma ms mt ol od) K := by
  have e16 : q 16 = 115 := by rw [hq]; exact hk9
  have e17 : q 17 = mc_val (ma 9) (ha 6 N) := by rw [hq]; rfl
  have e18 : q 18 = mc_val (ma 9) (ha 7 N) := by rw [hq]; rfl
  have e19 : q 19 = mc_val (ma 9) (ha 8 N) := by rw [hq]; rfl
  have e10 : q 10 = ms 19 := by rw [hq]; rfl
  have e12 : q 12 = ms 20 := by rw [hq]; rfl
  have e13 : q 13 = ms 21 := by rw [hq]; rfl
  have e14 : q 14 = ms 22 := by rw [hq]; rfl
  have e15 : q 15 = ms 23 := by rw [hq]; rfl
  have e8 : q 8 = ms 17 := by rw [hq]; rfl
  have e9 : q 9 = ms 18 := by rw [hq]; rfl
  have n116 : ¬ q 16 = 116 := by rw [e16]; decide
  have n120 : ¬ q 16 = 120 := by rw [e16]; decide
  have hmv : ¬ mx_mv (q 16) := by rw [e16]; unfold mx_mv; decide
  refine ⟨rfl, fun P hm hP => ?_⟩
  show P 0 [some (.ref 39), none, none, none, none] [] _ 0 0
  refine s_aload_n hP t133_0 rfl ?_
  refine s_getfield hP t133_1 rfl rfl ?_
  refine s_aload_n hP t133_4 rfl ?_
  refine s_getfield hP t133_5 rfl rfl ?_
  refine s_caload hP t133_8 rfl (by rw [hN]; exact vp_in_nI (by omega) (by decide)) ?_
  rw [hN, nI_clamp (by omega), hkd N hNM, hk9]
  refine s_istore_n_1 hP t133_9 (by exact rfl) ?_
  refine s_aload_n hP t133_10 rfl ?_
  refine s_aload_n hP t133_11 rfl ?_
  refine s_getfield hP t133_12 rfl rfl ?_
  refine s_aload_n hP t133_15 rfl ?_
  refine s_getfield hP t133_16 rfl rfl ?_
  refine s_iaload hP t133_19 rfl (by rw [hN]; exact vp_in_nI (by omega) (by decide)) ?_
  rw [hN, nI_clamp (by omega), hta N hNM]
  refine s_invokevirtual (bc' := 0) (bs' := 0) hP t133_20 rfl rfl rfl rfl rfl ?_
  refine sp132 (htm9 N hNM).1 ?_
  refine s_istore_n_2 hP t133_23 (by exact rfl) ?_
  refine s_aload_n hP t133_24 rfl ?_
  refine s_aload_n hP t133_25 rfl ?_
  refine s_getfield hP t133_26 rfl rfl ?_
  refine s_aload_n hP t133_29 rfl ?_
  refine s_getfield hP t133_30 rfl rfl ?_
  refine s_iaload hP t133_33 rfl (by rw [hN]; exact vp_in_nI (by omega) (by decide)) ?_
  rw [hN, nI_clamp (by omega), htb N hNM]
  refine s_invokevirtual (bc' := 0) (bs' := 0) hP t133_34 rfl rfl rfl rfl rfl ?_
  refine sp132 (htm9 N hNM).2.1 ?_
  refine s_istore_n_3 hP t133_37 (by exact rfl) ?_
  refine s_aload_n hP t133_38 rfl ?_
  refine s_aload_n hP t133_39 rfl ?_
  refine s_getfield hP t133_40 rfl rfl ?_
  refine s_aload_n hP t133_43 rfl ?_
  refine s_getfield hP t133_44 rfl rfl ?_
  refine s_iaload hP t133_47 rfl (by rw [hN]; exact vp_in_nI (by omega) (by decide)) ?_
  rw [hN, nI_clamp (by omega), htc N hNM]
  refine s_invokevirtual (bc' := 0) (bs' := 0) hP t133_48 rfl rfl rfl rfl rfl ?_
  refine sp132 (htm9 N hNM).2.2 ?_
  refine s_istore_4 hP t133_51 (by exact rfl) ?_
  rw [← e17, ← e18, ← e19]
  refine s_iload_n hP t133_53 rfl ?_
  refine s_bipush (v := 103) hP t133_54 (by decide) ?_
  refine s_icmp_eq hP t133_56 (fun q56 => ?_) (fun q56 => ?_)
  · exact absurd q56 (by decide)
  · refine s_iload_n hP t133_59 rfl ?_
    refine s_bipush (v := 108) hP t133_60 (by decide) ?_
    refine s_icmp_eq hP t133_62 (fun q62 => ?_) (fun q62 => ?_)
    · exact absurd q62 (by decide)
    · refine s_iload_n hP t133_65 rfl ?_
      refine s_bipush (v := 100) hP t133_66 (by decide) ?_
      refine s_icmp_eq hP t133_68 (fun q68 => ?_) (fun q68 => ?_)
      · exact absurd q68 (by decide)
      · refine s_iload_n hP t133_71 rfl ?_
        refine s_bipush (v := 112) hP t133_72 (by decide) ?_
        refine s_icmp_ne hP t133_74 (fun q74 => ?_) (fun q74 => ?_)
        · refine s_iload_n hP t133_87 rfl ?_
          refine s_bipush (v := 116) hP t133_88 (by decide) ?_
          refine s_icmp_ne hP t133_90 (fun q90 => ?_) (fun q90 => ?_)
          · refine s_iload_n hP t133_100 rfl ?_
            refine s_bipush (v := 120) hP t133_101 (by decide) ?_
            refine s_icmp_ne hP t133_103 (fun q103 => ?_) (fun q103 => ?_)
            · refine s_iload_n hP t133_112 rfl ?_
              refine s_bipush (v := 114) hP t133_113 (by decide) ?_
              refine s_icmp_eq hP t133_115 (fun q115 => ?_) (fun q115 => ?_)
              · exact absurd q115 (by decide)
              · refine s_iload_n hP t133_118 rfl ?_
                refine s_bipush (v := 105) hP t133_119 (by decide) ?_
                refine s_icmp_ne hP t133_121 (fun q121 => ?_) (fun q121 => ?_)
                · refine s_iload_n hP t133_132 rfl ?_
                  refine s_bipush (v := 113) hP t133_133 (by decide) ?_
                  refine s_icmp_ne hP t133_135 (fun q135 => ?_) (fun q135 => ?_)
                  · refine s_iload_n hP t133_141 rfl ?_
                    refine s_bipush (v := 101) hP t133_142 (by decide) ?_
                    refine s_icmp_eq hP t133_144 (fun q144 => ?_) (fun q144 => ?_)
                    · exact absurd q144 (by decide)
                    · refine s_aload_n hP t133_147 rfl ?_
                      refine s_iload_n hP t133_148 rfl ?_
                      refine s_iload_n hP t133_149 rfl ?_
                      refine s_iload_n hP t133_150 rfl ?_
                      refine s_iload hP t133_151 rfl ?_
                      refine s_invokevirtual (bc' := 0) (bs' := 0) hP t133_153 rfl rfl rfl rfl rfl ?_
                      refine sp129_115 (fun h1 => ?_) (fun h1 => ?_)
                      · refine s_ireturn hP t133_156 rfl rfl ?_
                        have hv : (mx_al ha (mg_S ma) T (mm_a ma) q s R X Y Z) = 110 := mx_al_110 (by rw [e16, told_115]; first | done | exact h1)
                        rw [hv] at ka
                        exact ka ma ms (by decide) (fun _ _ => rfl) (fun _ _ => rfl)
                      · refine s_ireturn hP t133_156 rfl rfl ?_
                        exact kf ma (am_u1 ms 23 (am_b (decide (q 17 = 1)))) mt (mx_al_45 hmv n116 n120 (by rw [e16, told_115]; first | done | exact h1)) ⟨fun i h4 h8 h9 h11 h12 h14 => rfl, fun j hj => by
                        simp only [am_u1, beq_no (show j ≠ 23 by omega), cond_false]⟩ hB (sx_go_E (ha := ha) (hz := hz) (N := N) (a := mm_a ma) (q := q) (sh := s) (R := R) (X := X) (Y := Y) (Z := Z) (S := mg_S ma) (t := mt) hmv (fun c hc => rfl) (fun j hj => by rw [me_ar_2 (by rw [e16]; decide) (by rw [e16]; decide)]; rfl) (fun j hj => rfl) (fun p hp h5 => by rw [me_ar_4 (by rw [e16]; decide) (by rw [e16]; decide)]; rfl) (by rw [me_nx_no (by rw [e16]; decide) (by rw [e16]; decide), e8]; rfl) (by rw [e9]; rfl) (fun j hj hj2 hj3 => by
                        have : j = 10 ∨ j = 12 ∨ j = 13 ∨ j = 14 ∨ j = 15 := by omega
                        rcases this with rfl | rfl | rfl | rfl | rfl
                        · rw [me_st, if_neg (by rw [e16]; decide), if_pos e16]; exact e10
                        · rw [me_st, if_neg (by rw [e16]; decide), if_pos e16]; exact e12
                        · rw [me_st, if_neg (by rw [e16]; decide), if_pos e16]; exact e13
                        · rw [me_st, if_neg (by rw [e16]; decide), if_pos e16]; exact e14
                        · rw [me_st, if_neg (by rw [e16]; decide), if_pos e16]; rfl) (rfl) (fun r hr => rfl))
                      
                  · exact absurd q135 (by decide)
                · exact absurd q121 (by decide)
            · exact absurd q103 (by decide)
          · exact absurd q90 (by decide)
        · exact absurd q74 (by decide)
set_option maxHeartbeats 4000000 in
theorem sp133_102 {d : Nat} {K : am_K} {ha : Nat → Nat → Int32} {hz : Int32} {a1 : Nat → Nat → Int32} {s1 : Nat → Int32} {t1 : UInt32} {a2 : Nat → Nat → Int32} {s2 : Nat → Int32} {t2 : UInt32} {al : Int32} {ma : Nat → Nat → Int32} {ms : Nat → Int32} {mt : UInt32} {ol : Nat → Int64} {od : Nat → UInt64} {T : Nat → Bool} {N M c s R X Y Z : Nat} {q : Nat → Int32} (hq : q = mx_q4 ha N (mm_a ma) (mm_s ms)) (hN : ms 17 = nI N) (hNM : N < M) (hM : hz = nI M) (hM9 : M ≤ 64) (hkd : ∀ i, i < M → ma 1 i = ha 5 i) (hta : ∀ i, i < M → ma 5 i = ha 6 i) (htb : ∀ i, i < M → ma 6 i = ha 7 i) (htc : ∀ i, i < M → ma 7 i = ha 8 i) (htm9 : ∀ i, i < M → mi_term (ha 6 i) = true ∧ mi_term (ha 7 i) = true ∧ mi_term (ha 8 i) = true) (hsh0 : ∀ c, c < 12 → ma 0 c = if ha 0 c = 0 then 45 else ha 0 c) (hshv : ∀ c, c < 12 → ha 0 c = 0 ∨ ha 0 c = 101 ∨ ha 0 c = 98 ∨ ha 0 c = 118) (hrad : ∀ c, c < 12 → ma 2 c = ha 1 c) (hli : ∀ c, c < 12 → ma 3 c = ha 2 c) (hoff : ∀ j, j < 12 → ma 10 j = ha 4 j) (hB : mg_B ma) (hT : ∀ q, q < 1152 → ma 13 q = am_b (T q)) (hm1 : ms 19 = -1 ∨ mg_req ma ms c s R) (hX : ma 11 0 = nI X) (hY : ma 11 1 = nI Y) (hZ : ma 11 2 = nI Z) (hX9 : X < 16) (hY9 : Y < 12) (hZ9 : Z < 10) (hO : ∃ O, ms 21 = nI O ∧ O < 4) (hb1 : mi_iw (q 17) (-50) 50 = true) (hb2 : mi_iw (q 18) (-50) 50 = true) (hb3 : mi_iw (q 19) (-50) 50 = true) (hfew : mc_told ha (q 16) (q 17) (q 18) (q 19) = true → ∀ e ∈ mx_es ha (mm_a ma) q, mg_few e) (hin : mc_told ha (q 16) (q 17) (q 18) (q 19) = true → (∀ e ∈ mx_es ha (mm_a ma) q, ml_ins e = true) → ∀ e ∈ mx_es ha (mm_a ma) q, ml_inn e) (hout : mc_told ha (q 16) (q 17) (q 18) (q 19) = true → (∀ e ∈ mx_es ha (mm_a ma) q, ∀ i, 1 ≤ i → i ≤ ml_N e → mg_at e i = true) → ∀ e ∈ mx_es ha (mm_a ma) q, ml_ins e = true) (htm : mc_told ha (q 16) (q 17) (q 18) (q 19) = true → (∀ e ∈ mx_es ha (mm_a ma) q, ml_inn e) → vf_n32 (mx_f q) ∧ ml_tok (mx_f q) (mx_es ha (mm_a ma) q) mt) (hW : mw_W (ha 5) M) (hP9 : mw_P (ha 5) (ha 9) M) (ka : ∀ (mb : Nat → Nat → Int32) (ms9 : Nat → Int32), ¬ (mx_al ha (mg_S ma) T (mm_a ma) q s R X Y Z) = 45 → (∀ i, i ≠ 12 → mb i = ma i) → (∀ j, j ≠ 26 → ms9 j = ms j) → K (some (.int (mx_al ha (mg_S ma) T (mm_a ma) q s R X Y Z))) (am_W ha hz a1 s1 t1 a2 s2 t2 al mb ms9 mt ol od)) (kf : ∀ (mb : Nat → Nat → Int32) (ms9 : Nat → Int32) (t9 : UInt32), (mx_al ha (mg_S ma) T (mm_a ma) q s R X Y Z) = 45 → mm_ok ma ms mb ms9 → mg_B mb → sx_E (ha 5) (mx_Q ha hz N (mm_a ma) q s R (mg_S ma) 8).toNatClampNeg (sx_go ha hz N (mm_a ma) q s R X Y Z (mg_S ma) mt) (mm_x mb (mm_up ms9) t9) → K (some (.int 45)) (am_W ha hz a1 s1 t1 a2 s2 t2 al mb ms9 t9 ol od)) (hk9 : ha 5 N = 102) : am_Run (d + 7) 133 [.ref 39] (am_W ha hz a1 s1 t1 a2 s2 t2 al ma ms mt ol od) K := by
  have e16 : q 16 = 102 := by rw [hq]; exact hk9
  have e17 : q 17 = mc_val (ma 9) (ha 6 N) := by rw [hq]; rfl
  have e18 : q 18 = mc_val (ma 9) (ha 7 N) := by rw [hq]; rfl
  have e19 : q 19 = mc_val (ma 9) (ha 8 N) := by rw [hq]; rfl
  have e10 : q 10 = ms 19 := by rw [hq]; rfl
  have e12 : q 12 = ms 20 := by rw [hq]; rfl
  have e13 : q 13 = ms 21 := by rw [hq]; rfl
  have e14 : q 14 = ms 22 := by rw [hq]; rfl
  have e15 : q 15 = ms 23 := by rw [hq]; rfl
  have e8 : q 8 = ms 17 := by rw [hq]; rfl
  have e9 : q 9 = ms 18 := by rw [hq]; rfl
  have n116 : ¬ q 16 = 116 := by rw [e16]; decide
  have n120 : ¬ q 16 = 120 := by rw [e16]; decide
  have hmv : ¬ mx_mv (q 16) := by rw [e16]; unfold mx_mv; decide
  refine ⟨rfl, fun P hm hP => ?_⟩
  show P 0 [some (.ref 39), none, none, none, none] [] _ 0 0
  refine s_aload_n hP t133_0 rfl ?_
  refine s_getfield hP t133_1 rfl rfl ?_
  refine s_aload_n hP t133_4 rfl ?_
  refine s_getfield hP t133_5 rfl rfl ?_
  refine s_caload hP t133_8 rfl (by rw [hN]; exact vp_in_nI (by omega) (by decide)) ?_
  rw [hN, nI_clamp (by omega), hkd N hNM, hk9]
  refine s_istore_n_1 hP t133_9 (by exact rfl) ?_
  refine s_aload_n hP t133_10 rfl ?_
  refine s_aload_n hP t133_11 rfl ?_
  refine s_getfield hP t133_12 rfl rfl ?_
  refine s_aload_n hP t133_15 rfl ?_
  refine s_getfield hP t133_16 rfl rfl ?_
  refine s_iaload hP t133_19 rfl (by rw [hN]; exact vp_in_nI (by omega) (by decide)) ?_
  rw [hN, nI_clamp (by omega), hta N hNM]
  refine s_invokevirtual (bc' := 0) (bs' := 0) hP t133_20 rfl rfl rfl rfl rfl ?_
  refine sp132 (htm9 N hNM).1 ?_
  refine s_istore_n_2 hP t133_23 (by exact rfl) ?_
  refine s_aload_n hP t133_24 rfl ?_
  refine s_aload_n hP t133_25 rfl ?_
  refine s_getfield hP t133_26 rfl rfl ?_
  refine s_aload_n hP t133_29 rfl ?_
  refine s_getfield hP t133_30 rfl rfl ?_
  refine s_iaload hP t133_33 rfl (by rw [hN]; exact vp_in_nI (by omega) (by decide)) ?_
  rw [hN, nI_clamp (by omega), htb N hNM]
  refine s_invokevirtual (bc' := 0) (bs' := 0) hP t133_34 rfl rfl rfl rfl rfl ?_
  refine sp132 (htm9 N hNM).2.1 ?_
  refine s_istore_n_3 hP t133_37 (by exact rfl) ?_
  refine s_aload_n hP t133_38 rfl ?_
  refine s_aload_n hP t133_39 rfl ?_
  refine s_getfield hP t133_40 rfl rfl ?_
  refine s_aload_n hP t133_43 rfl ?_
  refine s_getfield hP t133_44 rfl rfl ?_
  refine s_iaload hP t133_47 rfl (by rw [hN]; exact vp_in_nI (by omega) (by decide)) ?_
  rw [hN, nI_clamp (by omega), htc N hNM]
  refine s_invokevirtual (bc' := 0) (bs' := 0) hP t133_48 rfl rfl rfl rfl rfl ?_
  refine sp132 (htm9 N hNM).2.2 ?_
  refine s_istore_4 hP t133_51 (by exact rfl) ?_
  rw [← e17, ← e18, ← e19]
  refine s_iload_n hP t133_53 rfl ?_
  refine s_bipush (v := 103) hP t133_54 (by decide) ?_
  refine s_icmp_eq hP t133_56 (fun q56 => ?_) (fun q56 => ?_)
  · exact absurd q56 (by decide)
  · refine s_iload_n hP t133_59 rfl ?_
    refine s_bipush (v := 108) hP t133_60 (by decide) ?_
    refine s_icmp_eq hP t133_62 (fun q62 => ?_) (fun q62 => ?_)
    · exact absurd q62 (by decide)
    · refine s_iload_n hP t133_65 rfl ?_
      refine s_bipush (v := 100) hP t133_66 (by decide) ?_
      refine s_icmp_eq hP t133_68 (fun q68 => ?_) (fun q68 => ?_)
      · exact absurd q68 (by decide)
      · refine s_iload_n hP t133_71 rfl ?_
        refine s_bipush (v := 112) hP t133_72 (by decide) ?_
        refine s_icmp_ne hP t133_74 (fun q74 => ?_) (fun q74 => ?_)
        · refine s_iload_n hP t133_87 rfl ?_
          refine s_bipush (v := 116) hP t133_88 (by decide) ?_
          refine s_icmp_ne hP t133_90 (fun q90 => ?_) (fun q90 => ?_)
          · refine s_iload_n hP t133_100 rfl ?_
            refine s_bipush (v := 120) hP t133_101 (by decide) ?_
            refine s_icmp_ne hP t133_103 (fun q103 => ?_) (fun q103 => ?_)
            · refine s_iload_n hP t133_112 rfl ?_
              refine s_bipush (v := 114) hP t133_113 (by decide) ?_
              refine s_icmp_eq hP t133_115 (fun q115 => ?_) (fun q115 => ?_)
              · exact absurd q115 (by decide)
              · refine s_iload_n hP t133_118 rfl ?_
                refine s_bipush (v := 105) hP t133_119 (by decide) ?_
                refine s_icmp_ne hP t133_121 (fun q121 => ?_) (fun q121 => ?_)
                · refine s_iload_n hP t133_132 rfl ?_
                  refine s_bipush (v := 113) hP t133_133 (by decide) ?_
                  refine s_icmp_ne hP t133_135 (fun q135 => ?_) (fun q135 => ?_)
                  · refine s_iload_n hP t133_141 rfl ?_
                    refine s_bipush (v := 101) hP t133_142 (by decide) ?_
                    refine s_icmp_eq hP t133_144 (fun q144 => ?_) (fun q144 => ?_)
                    · exact absurd q144 (by decide)
                    · refine s_aload_n hP t133_147 rfl ?_
                      refine s_iload_n hP t133_148 rfl ?_
                      refine s_iload_n hP t133_149 rfl ?_
                      refine s_iload_n hP t133_150 rfl ?_
                      refine s_iload hP t133_151 rfl ?_
                      refine s_invokevirtual (bc' := 0) (bs' := 0) hP t133_153 rfl rfl rfl rfl rfl ?_
                      refine sp129_102 (fun h1 => ?_) (fun h1 => ?_)
                      · refine s_ireturn hP t133_156 rfl rfl ?_
                        have hv : (mx_al ha (mg_S ma) T (mm_a ma) q s R X Y Z) = 110 := mx_al_110 (by rw [e16, told_102]; first | done | exact h1)
                        rw [hv] at ka
                        exact ka ma ms (by decide) (fun _ _ => rfl) (fun _ _ => rfl)
                      · refine s_ireturn hP t133_156 rfl rfl ?_
                        exact kf ma (am_u1 ms 20 (q 17)) mt (mx_al_45 hmv n116 n120 (by rw [e16, told_102]; first | done | exact h1)) ⟨fun i h4 h8 h9 h11 h12 h14 => rfl, fun j hj => by
                        simp only [am_u1, beq_no (show j ≠ 20 by omega), cond_false]⟩ hB (sx_go_E (ha := ha) (hz := hz) (N := N) (a := mm_a ma) (q := q) (sh := s) (R := R) (X := X) (Y := Y) (Z := Z) (S := mg_S ma) (t := mt) hmv (fun c hc => rfl) (fun j hj => by rw [me_ar_2 (by rw [e16]; decide) (by rw [e16]; decide)]; rfl) (fun j hj => rfl) (fun p hp h5 => by rw [me_ar_4 (by rw [e16]; decide) (by rw [e16]; decide)]; rfl) (by rw [me_nx_no (by rw [e16]; decide) (by rw [e16]; decide), e8]; rfl) (by rw [e9]; rfl) (fun j hj hj2 hj3 => by
                        have : j = 10 ∨ j = 12 ∨ j = 13 ∨ j = 14 ∨ j = 15 := by omega
                        rcases this with rfl | rfl | rfl | rfl | rfl
                        · rw [me_st, if_neg (by rw [e16]; decide), if_neg (by rw [e16]; decide), if_pos e16]; exact e10
                        · rw [me_st, if_neg (by rw [e16]; decide), if_neg (by rw [e16]; decide), if_pos e16]; rfl
                        · rw [me_st, if_neg (by rw [e16]; decide), if_neg (by rw [e16]; decide), if_pos e16]; exact e13
                        · rw [me_st, if_neg (by rw [e16]; decide), if_neg (by rw [e16]; decide), if_pos e16]; exact e14
                        · rw [me_st, if_neg (by rw [e16]; decide), if_neg (by rw [e16]; decide), if_pos e16]; exact e15) (rfl) (fun r hr => rfl))
                      
                  · exact absurd q135 (by decide)
                · exact absurd q121 (by decide)
            · exact absurd q103 (by decide)
          · exact absurd q90 (by decide)
        · exact absurd q74 (by decide)
set_option maxHeartbeats 4000000 in
theorem sp133_109 {d : Nat} {K : am_K} {ha : Nat → Nat → Int32} {hz : Int32} {a1 : Nat → Nat → Int32} {s1 : Nat → Int32} {t1 : UInt32} {a2 : Nat → Nat → Int32} {s2 : Nat → Int32} {t2 : UInt32} {al : Int32} {ma : Nat → Nat → Int32} {ms : Nat → Int32} {mt : UInt32} {ol : Nat → Int64} {od : Nat → UInt64} {T : Nat → Bool} {N M c s R X Y Z : Nat} {q : Nat → Int32} (hq : q = mx_q4 ha N (mm_a ma) (mm_s ms)) (hN : ms 17 = nI N) (hNM : N < M) (hM : hz = nI M) (hM9 : M ≤ 64) (hkd : ∀ i, i < M → ma 1 i = ha 5 i) (hta : ∀ i, i < M → ma 5 i = ha 6 i) (htb : ∀ i, i < M → ma 6 i = ha 7 i) (htc : ∀ i, i < M → ma 7 i = ha 8 i) (htm9 : ∀ i, i < M → mi_term (ha 6 i) = true ∧ mi_term (ha 7 i) = true ∧ mi_term (ha 8 i) = true) (hsh0 : ∀ c, c < 12 → ma 0 c = if ha 0 c = 0 then 45 else ha 0 c) (hshv : ∀ c, c < 12 → ha 0 c = 0 ∨ ha 0 c = 101 ∨ ha 0 c = 98 ∨ ha 0 c = 118) (hrad : ∀ c, c < 12 → ma 2 c = ha 1 c) (hli : ∀ c, c < 12 → ma 3 c = ha 2 c) (hoff : ∀ j, j < 12 → ma 10 j = ha 4 j) (hB : mg_B ma) (hT : ∀ q, q < 1152 → ma 13 q = am_b (T q)) (hm1 : ms 19 = -1 ∨ mg_req ma ms c s R) (hX : ma 11 0 = nI X) (hY : ma 11 1 = nI Y) (hZ : ma 11 2 = nI Z) (hX9 : X < 16) (hY9 : Y < 12) (hZ9 : Z < 10) (hO : ∃ O, ms 21 = nI O ∧ O < 4) (hb1 : mi_iw (q 17) (-50) 50 = true) (hb2 : mi_iw (q 18) (-50) 50 = true) (hb3 : mi_iw (q 19) (-50) 50 = true) (hfew : mc_told ha (q 16) (q 17) (q 18) (q 19) = true → ∀ e ∈ mx_es ha (mm_a ma) q, mg_few e) (hin : mc_told ha (q 16) (q 17) (q 18) (q 19) = true → (∀ e ∈ mx_es ha (mm_a ma) q, ml_ins e = true) → ∀ e ∈ mx_es ha (mm_a ma) q, ml_inn e) (hout : mc_told ha (q 16) (q 17) (q 18) (q 19) = true → (∀ e ∈ mx_es ha (mm_a ma) q, ∀ i, 1 ≤ i → i ≤ ml_N e → mg_at e i = true) → ∀ e ∈ mx_es ha (mm_a ma) q, ml_ins e = true) (htm : mc_told ha (q 16) (q 17) (q 18) (q 19) = true → (∀ e ∈ mx_es ha (mm_a ma) q, ml_inn e) → vf_n32 (mx_f q) ∧ ml_tok (mx_f q) (mx_es ha (mm_a ma) q) mt) (hW : mw_W (ha 5) M) (hP9 : mw_P (ha 5) (ha 9) M) (ka : ∀ (mb : Nat → Nat → Int32) (ms9 : Nat → Int32), ¬ (mx_al ha (mg_S ma) T (mm_a ma) q s R X Y Z) = 45 → (∀ i, i ≠ 12 → mb i = ma i) → (∀ j, j ≠ 26 → ms9 j = ms j) → K (some (.int (mx_al ha (mg_S ma) T (mm_a ma) q s R X Y Z))) (am_W ha hz a1 s1 t1 a2 s2 t2 al mb ms9 mt ol od)) (kf : ∀ (mb : Nat → Nat → Int32) (ms9 : Nat → Int32) (t9 : UInt32), (mx_al ha (mg_S ma) T (mm_a ma) q s R X Y Z) = 45 → mm_ok ma ms mb ms9 → mg_B mb → sx_E (ha 5) (mx_Q ha hz N (mm_a ma) q s R (mg_S ma) 8).toNatClampNeg (sx_go ha hz N (mm_a ma) q s R X Y Z (mg_S ma) mt) (mm_x mb (mm_up ms9) t9) → K (some (.int 45)) (am_W ha hz a1 s1 t1 a2 s2 t2 al mb ms9 t9 ol od)) (hk9 : ha 5 N = 109) : am_Run (d + 7) 133 [.ref 39] (am_W ha hz a1 s1 t1 a2 s2 t2 al ma ms mt ol od) K := by
  have e16 : q 16 = 109 := by rw [hq]; exact hk9
  have e17 : q 17 = mc_val (ma 9) (ha 6 N) := by rw [hq]; rfl
  have e18 : q 18 = mc_val (ma 9) (ha 7 N) := by rw [hq]; rfl
  have e19 : q 19 = mc_val (ma 9) (ha 8 N) := by rw [hq]; rfl
  have e10 : q 10 = ms 19 := by rw [hq]; rfl
  have e12 : q 12 = ms 20 := by rw [hq]; rfl
  have e13 : q 13 = ms 21 := by rw [hq]; rfl
  have e14 : q 14 = ms 22 := by rw [hq]; rfl
  have e15 : q 15 = ms 23 := by rw [hq]; rfl
  have e8 : q 8 = ms 17 := by rw [hq]; rfl
  have e9 : q 9 = ms 18 := by rw [hq]; rfl
  have n116 : ¬ q 16 = 116 := by rw [e16]; decide
  have n120 : ¬ q 16 = 120 := by rw [e16]; decide
  have hmv : ¬ mx_mv (q 16) := by rw [e16]; unfold mx_mv; decide
  refine ⟨rfl, fun P hm hP => ?_⟩
  show P 0 [some (.ref 39), none, none, none, none] [] _ 0 0
  refine s_aload_n hP t133_0 rfl ?_
  refine s_getfield hP t133_1 rfl rfl ?_
  refine s_aload_n hP t133_4 rfl ?_
  refine s_getfield hP t133_5 rfl rfl ?_
  refine s_caload hP t133_8 rfl (by rw [hN]; exact vp_in_nI (by omega) (by decide)) ?_
  rw [hN, nI_clamp (by omega), hkd N hNM, hk9]
  refine s_istore_n_1 hP t133_9 (by exact rfl) ?_
  refine s_aload_n hP t133_10 rfl ?_
  refine s_aload_n hP t133_11 rfl ?_
  refine s_getfield hP t133_12 rfl rfl ?_
  refine s_aload_n hP t133_15 rfl ?_
  refine s_getfield hP t133_16 rfl rfl ?_
  refine s_iaload hP t133_19 rfl (by rw [hN]; exact vp_in_nI (by omega) (by decide)) ?_
  rw [hN, nI_clamp (by omega), hta N hNM]
  refine s_invokevirtual (bc' := 0) (bs' := 0) hP t133_20 rfl rfl rfl rfl rfl ?_
  refine sp132 (htm9 N hNM).1 ?_
  refine s_istore_n_2 hP t133_23 (by exact rfl) ?_
  refine s_aload_n hP t133_24 rfl ?_
  refine s_aload_n hP t133_25 rfl ?_
  refine s_getfield hP t133_26 rfl rfl ?_
  refine s_aload_n hP t133_29 rfl ?_
  refine s_getfield hP t133_30 rfl rfl ?_
  refine s_iaload hP t133_33 rfl (by rw [hN]; exact vp_in_nI (by omega) (by decide)) ?_
  rw [hN, nI_clamp (by omega), htb N hNM]
  refine s_invokevirtual (bc' := 0) (bs' := 0) hP t133_34 rfl rfl rfl rfl rfl ?_
  refine sp132 (htm9 N hNM).2.1 ?_
  refine s_istore_n_3 hP t133_37 (by exact rfl) ?_
  refine s_aload_n hP t133_38 rfl ?_
  refine s_aload_n hP t133_39 rfl ?_
  refine s_getfield hP t133_40 rfl rfl ?_
  refine s_aload_n hP t133_43 rfl ?_
  refine s_getfield hP t133_44 rfl rfl ?_
  refine s_iaload hP t133_47 rfl (by rw [hN]; exact vp_in_nI (by omega) (by decide)) ?_
  rw [hN, nI_clamp (by omega), htc N hNM]
  refine s_invokevirtual (bc' := 0) (bs' := 0) hP t133_48 rfl rfl rfl rfl rfl ?_
  refine sp132 (htm9 N hNM).2.2 ?_
  refine s_istore_4 hP t133_51 (by exact rfl) ?_
  rw [← e17, ← e18, ← e19]
  refine s_iload_n hP t133_53 rfl ?_
  refine s_bipush (v := 103) hP t133_54 (by decide) ?_
  refine s_icmp_eq hP t133_56 (fun q56 => ?_) (fun q56 => ?_)
  · exact absurd q56 (by decide)
  · refine s_iload_n hP t133_59 rfl ?_
    refine s_bipush (v := 108) hP t133_60 (by decide) ?_
    refine s_icmp_eq hP t133_62 (fun q62 => ?_) (fun q62 => ?_)
    · exact absurd q62 (by decide)
    · refine s_iload_n hP t133_65 rfl ?_
      refine s_bipush (v := 100) hP t133_66 (by decide) ?_
      refine s_icmp_eq hP t133_68 (fun q68 => ?_) (fun q68 => ?_)
      · exact absurd q68 (by decide)
      · refine s_iload_n hP t133_71 rfl ?_
        refine s_bipush (v := 112) hP t133_72 (by decide) ?_
        refine s_icmp_ne hP t133_74 (fun q74 => ?_) (fun q74 => ?_)
        · refine s_iload_n hP t133_87 rfl ?_
          refine s_bipush (v := 116) hP t133_88 (by decide) ?_
          refine s_icmp_ne hP t133_90 (fun q90 => ?_) (fun q90 => ?_)
          · refine s_iload_n hP t133_100 rfl ?_
            refine s_bipush (v := 120) hP t133_101 (by decide) ?_
            refine s_icmp_ne hP t133_103 (fun q103 => ?_) (fun q103 => ?_)
            · refine s_iload_n hP t133_112 rfl ?_
              refine s_bipush (v := 114) hP t133_113 (by decide) ?_
              refine s_icmp_eq hP t133_115 (fun q115 => ?_) (fun q115 => ?_)
              · exact absurd q115 (by decide)
              · refine s_iload_n hP t133_118 rfl ?_
                refine s_bipush (v := 105) hP t133_119 (by decide) ?_
                refine s_icmp_ne hP t133_121 (fun q121 => ?_) (fun q121 => ?_)
                · refine s_iload_n hP t133_132 rfl ?_
                  refine s_bipush (v := 113) hP t133_133 (by decide) ?_
                  refine s_icmp_ne hP t133_135 (fun q135 => ?_) (fun q135 => ?_)
                  · refine s_iload_n hP t133_141 rfl ?_
                    refine s_bipush (v := 101) hP t133_142 (by decide) ?_
                    refine s_icmp_eq hP t133_144 (fun q144 => ?_) (fun q144 => ?_)
                    · exact absurd q144 (by decide)
                    · refine s_aload_n hP t133_147 rfl ?_
                      refine s_iload_n hP t133_148 rfl ?_
                      refine s_iload_n hP t133_149 rfl ?_
                      refine s_iload_n hP t133_150 rfl ?_
                      refine s_iload hP t133_151 rfl ?_
                      refine s_invokevirtual (bc' := 0) (bs' := 0) hP t133_153 rfl rfl rfl rfl rfl ?_
                      refine sp129_109 (fun h1 => ?_) (fun h1 => ?_)
                      · refine s_ireturn hP t133_156 rfl rfl ?_
                        have hv : (mx_al ha (mg_S ma) T (mm_a ma) q s R X Y Z) = 110 := mx_al_110 (by rw [e16, told_109]; first | done | exact h1)
                        rw [hv] at ka
                        exact ka ma ms (by decide) (fun _ _ => rfl) (fun _ _ => rfl)
                      · refine s_ireturn hP t133_156 rfl rfl ?_
                        exact kf ma (am_u1 ms 22 (am_b (decide (q 17 = 1)))) mt (mx_al_45 hmv n116 n120 (by rw [e16, told_109]; first | done | exact h1)) ⟨fun i h4 h8 h9 h11 h12 h14 => rfl, fun j hj => by
                        simp only [am_u1, beq_no (show j ≠ 22 by omega), cond_false]⟩ hB (sx_go_E (ha := ha) (hz := hz) (N := N) (a := mm_a ma) (q := q) (sh := s) (R := R) (X := X) (Y := Y) (Z := Z) (S := mg_S ma) (t := mt) hmv (fun c hc => rfl) (fun j hj => by rw [me_ar_2 (by rw [e16]; decide) (by rw [e16]; decide)]; rfl) (fun j hj => rfl) (fun p hp h5 => by rw [me_ar_4 (by rw [e16]; decide) (by rw [e16]; decide)]; rfl) (by rw [me_nx_no (by rw [e16]; decide) (by rw [e16]; decide), e8]; rfl) (by rw [e9]; rfl) (fun j hj hj2 hj3 => by
                        have : j = 10 ∨ j = 12 ∨ j = 13 ∨ j = 14 ∨ j = 15 := by omega
                        rcases this with rfl | rfl | rfl | rfl | rfl
                        · rw [me_st, if_neg (by rw [e16]; decide), if_neg (by rw [e16]; decide), if_neg (by rw [e16]; decide), if_pos e16]; exact e10
                        · rw [me_st, if_neg (by rw [e16]; decide), if_neg (by rw [e16]; decide), if_neg (by rw [e16]; decide), if_pos e16]; exact e12
                        · rw [me_st, if_neg (by rw [e16]; decide), if_neg (by rw [e16]; decide), if_neg (by rw [e16]; decide), if_pos e16]; exact e13
                        · rw [me_st, if_neg (by rw [e16]; decide), if_neg (by rw [e16]; decide), if_neg (by rw [e16]; decide), if_pos e16]; rfl
                        · rw [me_st, if_neg (by rw [e16]; decide), if_neg (by rw [e16]; decide), if_neg (by rw [e16]; decide), if_pos e16]; exact e15) (rfl) (fun r hr => rfl))
                      
                  · exact absurd q135 (by decide)
                · exact absurd q121 (by decide)
            · exact absurd q103 (by decide)
          · exact absurd q90 (by decide)
        · exact absurd q74 (by decide)
set_option maxHeartbeats 4000000 in
theorem sp133_111 {d : Nat} {K : am_K} {ha : Nat → Nat → Int32} {hz : Int32} {a1 : Nat → Nat → Int32} {s1 : Nat → Int32} {t1 : UInt32} {a2 : Nat → Nat → Int32} {s2 : Nat → Int32} {t2 : UInt32} {al : Int32} {ma : Nat → Nat → Int32} {ms : Nat → Int32} {mt : UInt32} {ol : Nat → Int64} {od : Nat → UInt64} {T : Nat → Bool} {N M c s R X Y Z : Nat} {q : Nat → Int32} (hq : q = mx_q4 ha N (mm_a ma) (mm_s ms)) (hN : ms 17 = nI N) (hNM : N < M) (hM : hz = nI M) (hM9 : M ≤ 64) (hkd : ∀ i, i < M → ma 1 i = ha 5 i) (hta : ∀ i, i < M → ma 5 i = ha 6 i) (htb : ∀ i, i < M → ma 6 i = ha 7 i) (htc : ∀ i, i < M → ma 7 i = ha 8 i) (htm9 : ∀ i, i < M → mi_term (ha 6 i) = true ∧ mi_term (ha 7 i) = true ∧ mi_term (ha 8 i) = true) (hsh0 : ∀ c, c < 12 → ma 0 c = if ha 0 c = 0 then 45 else ha 0 c) (hshv : ∀ c, c < 12 → ha 0 c = 0 ∨ ha 0 c = 101 ∨ ha 0 c = 98 ∨ ha 0 c = 118) (hrad : ∀ c, c < 12 → ma 2 c = ha 1 c) (hli : ∀ c, c < 12 → ma 3 c = ha 2 c) (hoff : ∀ j, j < 12 → ma 10 j = ha 4 j) (hB : mg_B ma) (hT : ∀ q, q < 1152 → ma 13 q = am_b (T q)) (hm1 : ms 19 = -1 ∨ mg_req ma ms c s R) (hX : ma 11 0 = nI X) (hY : ma 11 1 = nI Y) (hZ : ma 11 2 = nI Z) (hX9 : X < 16) (hY9 : Y < 12) (hZ9 : Z < 10) (hO : ∃ O, ms 21 = nI O ∧ O < 4) (hb1 : mi_iw (q 17) (-50) 50 = true) (hb2 : mi_iw (q 18) (-50) 50 = true) (hb3 : mi_iw (q 19) (-50) 50 = true) (hfew : mc_told ha (q 16) (q 17) (q 18) (q 19) = true → ∀ e ∈ mx_es ha (mm_a ma) q, mg_few e) (hin : mc_told ha (q 16) (q 17) (q 18) (q 19) = true → (∀ e ∈ mx_es ha (mm_a ma) q, ml_ins e = true) → ∀ e ∈ mx_es ha (mm_a ma) q, ml_inn e) (hout : mc_told ha (q 16) (q 17) (q 18) (q 19) = true → (∀ e ∈ mx_es ha (mm_a ma) q, ∀ i, 1 ≤ i → i ≤ ml_N e → mg_at e i = true) → ∀ e ∈ mx_es ha (mm_a ma) q, ml_ins e = true) (htm : mc_told ha (q 16) (q 17) (q 18) (q 19) = true → (∀ e ∈ mx_es ha (mm_a ma) q, ml_inn e) → vf_n32 (mx_f q) ∧ ml_tok (mx_f q) (mx_es ha (mm_a ma) q) mt) (hW : mw_W (ha 5) M) (hP9 : mw_P (ha 5) (ha 9) M) (ka : ∀ (mb : Nat → Nat → Int32) (ms9 : Nat → Int32), ¬ (mx_al ha (mg_S ma) T (mm_a ma) q s R X Y Z) = 45 → (∀ i, i ≠ 12 → mb i = ma i) → (∀ j, j ≠ 26 → ms9 j = ms j) → K (some (.int (mx_al ha (mg_S ma) T (mm_a ma) q s R X Y Z))) (am_W ha hz a1 s1 t1 a2 s2 t2 al mb ms9 mt ol od)) (kf : ∀ (mb : Nat → Nat → Int32) (ms9 : Nat → Int32) (t9 : UInt32), (mx_al ha (mg_S ma) T (mm_a ma) q s R X Y Z) = 45 → mm_ok ma ms mb ms9 → mg_B mb → sx_E (ha 5) (mx_Q ha hz N (mm_a ma) q s R (mg_S ma) 8).toNatClampNeg (sx_go ha hz N (mm_a ma) q s R X Y Z (mg_S ma) mt) (mm_x mb (mm_up ms9) t9) → K (some (.int 45)) (am_W ha hz a1 s1 t1 a2 s2 t2 al mb ms9 t9 ol od)) (hk9 : ha 5 N = 111) : am_Run (d + 7) 133 [.ref 39] (am_W ha hz a1 s1 t1 a2 s2 t2 al ma ms mt ol od) K := by
  have e16 : q 16 = 111 := by rw [hq]; exact hk9
  have e17 : q 17 = mc_val (ma 9) (ha 6 N) := by rw [hq]; rfl
  have e18 : q 18 = mc_val (ma 9) (ha 7 N) := by rw [hq]; rfl
  have e19 : q 19 = mc_val (ma 9) (ha 8 N) := by rw [hq]; rfl
  have e10 : q 10 = ms 19 := by rw [hq]; rfl
  have e12 : q 12 = ms 20 := by rw [hq]; rfl
  have e13 : q 13 = ms 21 := by rw [hq]; rfl
  have e14 : q 14 = ms 22 := by rw [hq]; rfl
  have e15 : q 15 = ms 23 := by rw [hq]; rfl
  have e8 : q 8 = ms 17 := by rw [hq]; rfl
  have e9 : q 9 = ms 18 := by rw [hq]; rfl
  have n116 : ¬ q 16 = 116 := by rw [e16]; decide
  have n120 : ¬ q 16 = 120 := by rw [e16]; decide
  have hmv : ¬ mx_mv (q 16) := by rw [e16]; unfold mx_mv; decide
  refine ⟨rfl, fun P hm hP => ?_⟩
  show P 0 [some (.ref 39), none, none, none, none] [] _ 0 0
  refine s_aload_n hP t133_0 rfl ?_
  refine s_getfield hP t133_1 rfl rfl ?_
  refine s_aload_n hP t133_4 rfl ?_
  refine s_getfield hP t133_5 rfl rfl ?_
  refine s_caload hP t133_8 rfl (by rw [hN]; exact vp_in_nI (by omega) (by decide)) ?_
  rw [hN, nI_clamp (by omega), hkd N hNM, hk9]
  refine s_istore_n_1 hP t133_9 (by exact rfl) ?_
  refine s_aload_n hP t133_10 rfl ?_
  refine s_aload_n hP t133_11 rfl ?_
  refine s_getfield hP t133_12 rfl rfl ?_
  refine s_aload_n hP t133_15 rfl ?_
  refine s_getfield hP t133_16 rfl rfl ?_
  refine s_iaload hP t133_19 rfl (by rw [hN]; exact vp_in_nI (by omega) (by decide)) ?_
  rw [hN, nI_clamp (by omega), hta N hNM]
  refine s_invokevirtual (bc' := 0) (bs' := 0) hP t133_20 rfl rfl rfl rfl rfl ?_
  refine sp132 (htm9 N hNM).1 ?_
  refine s_istore_n_2 hP t133_23 (by exact rfl) ?_
  refine s_aload_n hP t133_24 rfl ?_
  refine s_aload_n hP t133_25 rfl ?_
  refine s_getfield hP t133_26 rfl rfl ?_
  refine s_aload_n hP t133_29 rfl ?_
  refine s_getfield hP t133_30 rfl rfl ?_
  refine s_iaload hP t133_33 rfl (by rw [hN]; exact vp_in_nI (by omega) (by decide)) ?_
  rw [hN, nI_clamp (by omega), htb N hNM]
  refine s_invokevirtual (bc' := 0) (bs' := 0) hP t133_34 rfl rfl rfl rfl rfl ?_
  refine sp132 (htm9 N hNM).2.1 ?_
  refine s_istore_n_3 hP t133_37 (by exact rfl) ?_
  refine s_aload_n hP t133_38 rfl ?_
  refine s_aload_n hP t133_39 rfl ?_
  refine s_getfield hP t133_40 rfl rfl ?_
  refine s_aload_n hP t133_43 rfl ?_
  refine s_getfield hP t133_44 rfl rfl ?_
  refine s_iaload hP t133_47 rfl (by rw [hN]; exact vp_in_nI (by omega) (by decide)) ?_
  rw [hN, nI_clamp (by omega), htc N hNM]
  refine s_invokevirtual (bc' := 0) (bs' := 0) hP t133_48 rfl rfl rfl rfl rfl ?_
  refine sp132 (htm9 N hNM).2.2 ?_
  refine s_istore_4 hP t133_51 (by exact rfl) ?_
  rw [← e17, ← e18, ← e19]
  refine s_iload_n hP t133_53 rfl ?_
  refine s_bipush (v := 103) hP t133_54 (by decide) ?_
  refine s_icmp_eq hP t133_56 (fun q56 => ?_) (fun q56 => ?_)
  · exact absurd q56 (by decide)
  · refine s_iload_n hP t133_59 rfl ?_
    refine s_bipush (v := 108) hP t133_60 (by decide) ?_
    refine s_icmp_eq hP t133_62 (fun q62 => ?_) (fun q62 => ?_)
    · exact absurd q62 (by decide)
    · refine s_iload_n hP t133_65 rfl ?_
      refine s_bipush (v := 100) hP t133_66 (by decide) ?_
      refine s_icmp_eq hP t133_68 (fun q68 => ?_) (fun q68 => ?_)
      · exact absurd q68 (by decide)
      · refine s_iload_n hP t133_71 rfl ?_
        refine s_bipush (v := 112) hP t133_72 (by decide) ?_
        refine s_icmp_ne hP t133_74 (fun q74 => ?_) (fun q74 => ?_)
        · refine s_iload_n hP t133_87 rfl ?_
          refine s_bipush (v := 116) hP t133_88 (by decide) ?_
          refine s_icmp_ne hP t133_90 (fun q90 => ?_) (fun q90 => ?_)
          · refine s_iload_n hP t133_100 rfl ?_
            refine s_bipush (v := 120) hP t133_101 (by decide) ?_
            refine s_icmp_ne hP t133_103 (fun q103 => ?_) (fun q103 => ?_)
            · refine s_iload_n hP t133_112 rfl ?_
              refine s_bipush (v := 114) hP t133_113 (by decide) ?_
              refine s_icmp_eq hP t133_115 (fun q115 => ?_) (fun q115 => ?_)
              · exact absurd q115 (by decide)
              · refine s_iload_n hP t133_118 rfl ?_
                refine s_bipush (v := 105) hP t133_119 (by decide) ?_
                refine s_icmp_ne hP t133_121 (fun q121 => ?_) (fun q121 => ?_)
                · refine s_iload_n hP t133_132 rfl ?_
                  refine s_bipush (v := 113) hP t133_133 (by decide) ?_
                  refine s_icmp_ne hP t133_135 (fun q135 => ?_) (fun q135 => ?_)
                  · refine s_iload_n hP t133_141 rfl ?_
                    refine s_bipush (v := 101) hP t133_142 (by decide) ?_
                    refine s_icmp_eq hP t133_144 (fun q144 => ?_) (fun q144 => ?_)
                    · exact absurd q144 (by decide)
                    · refine s_aload_n hP t133_147 rfl ?_
                      refine s_iload_n hP t133_148 rfl ?_
                      refine s_iload_n hP t133_149 rfl ?_
                      refine s_iload_n hP t133_150 rfl ?_
                      refine s_iload hP t133_151 rfl ?_
                      refine s_invokevirtual (bc' := 0) (bs' := 0) hP t133_153 rfl rfl rfl rfl rfl ?_
                      refine sp129_111 (fun h1 => ?_) (fun h1 => ?_)
                      · refine s_ireturn hP t133_156 rfl rfl ?_
                        have hv : (mx_al ha (mg_S ma) T (mm_a ma) q s R X Y Z) = 110 := mx_al_110 (by rw [e16, told_111]; first | done | exact h1)
                        rw [hv] at ka
                        exact ka ma ms (by decide) (fun _ _ => rfl) (fun _ _ => rfl)
                      · refine s_ireturn hP t133_156 rfl rfl ?_
                        exact kf ma (am_u1 ms 21 (q 17)) mt (mx_al_45 hmv n116 n120 (by rw [e16, told_111]; first | done | exact h1)) ⟨fun i h4 h8 h9 h11 h12 h14 => rfl, fun j hj => by
                        simp only [am_u1, beq_no (show j ≠ 21 by omega), cond_false]⟩ hB (sx_go_E (ha := ha) (hz := hz) (N := N) (a := mm_a ma) (q := q) (sh := s) (R := R) (X := X) (Y := Y) (Z := Z) (S := mg_S ma) (t := mt) hmv (fun c hc => rfl) (fun j hj => by rw [me_ar_2 (by rw [e16]; decide) (by rw [e16]; decide)]; rfl) (fun j hj => rfl) (fun p hp h5 => by rw [me_ar_4 (by rw [e16]; decide) (by rw [e16]; decide)]; rfl) (by rw [me_nx_no (by rw [e16]; decide) (by rw [e16]; decide), e8]; rfl) (by rw [e9]; rfl) (fun j hj hj2 hj3 => by
                        have : j = 10 ∨ j = 12 ∨ j = 13 ∨ j = 14 ∨ j = 15 := by omega
                        rcases this with rfl | rfl | rfl | rfl | rfl
                        · rw [me_st, if_neg (by rw [e16]; decide), if_neg (by rw [e16]; decide), if_neg (by rw [e16]; decide), if_neg (by rw [e16]; decide), if_pos e16]; exact e10
                        · rw [me_st, if_neg (by rw [e16]; decide), if_neg (by rw [e16]; decide), if_neg (by rw [e16]; decide), if_neg (by rw [e16]; decide), if_pos e16]; exact e12
                        · rw [me_st, if_neg (by rw [e16]; decide), if_neg (by rw [e16]; decide), if_neg (by rw [e16]; decide), if_neg (by rw [e16]; decide), if_pos e16]; rfl
                        · rw [me_st, if_neg (by rw [e16]; decide), if_neg (by rw [e16]; decide), if_neg (by rw [e16]; decide), if_neg (by rw [e16]; decide), if_pos e16]; exact e14
                        · rw [me_st, if_neg (by rw [e16]; decide), if_neg (by rw [e16]; decide), if_neg (by rw [e16]; decide), if_neg (by rw [e16]; decide), if_pos e16]; exact e15) (rfl) (fun r hr => rfl))
                      
                  · exact absurd q135 (by decide)
                · exact absurd q121 (by decide)
            · exact absurd q103 (by decide)
          · exact absurd q90 (by decide)
        · exact absurd q74 (by decide)
set_option maxHeartbeats 4000000 in
theorem sp133_118 {d : Nat} {K : am_K} {ha : Nat → Nat → Int32} {hz : Int32} {a1 : Nat → Nat → Int32} {s1 : Nat → Int32} {t1 : UInt32} {a2 : Nat → Nat → Int32} {s2 : Nat → Int32} {t2 : UInt32} {al : Int32} {ma : Nat → Nat → Int32} {ms : Nat → Int32} {mt : UInt32} {ol : Nat → Int64} {od : Nat → UInt64} {T : Nat → Bool} {N M c s R X Y Z : Nat} {q : Nat → Int32} (hq : q = mx_q4 ha N (mm_a ma) (mm_s ms)) (hN : ms 17 = nI N) (hNM : N < M) (hM : hz = nI M) (hM9 : M ≤ 64) (hkd : ∀ i, i < M → ma 1 i = ha 5 i) (hta : ∀ i, i < M → ma 5 i = ha 6 i) (htb : ∀ i, i < M → ma 6 i = ha 7 i) (htc : ∀ i, i < M → ma 7 i = ha 8 i) (htm9 : ∀ i, i < M → mi_term (ha 6 i) = true ∧ mi_term (ha 7 i) = true ∧ mi_term (ha 8 i) = true) (hsh0 : ∀ c, c < 12 → ma 0 c = if ha 0 c = 0 then 45 else ha 0 c) (hshv : ∀ c, c < 12 → ha 0 c = 0 ∨ ha 0 c = 101 ∨ ha 0 c = 98 ∨ ha 0 c = 118) (hrad : ∀ c, c < 12 → ma 2 c = ha 1 c) (hli : ∀ c, c < 12 → ma 3 c = ha 2 c) (hoff : ∀ j, j < 12 → ma 10 j = ha 4 j) (hB : mg_B ma) (hT : ∀ q, q < 1152 → ma 13 q = am_b (T q)) (hm1 : ms 19 = -1 ∨ mg_req ma ms c s R) (hX : ma 11 0 = nI X) (hY : ma 11 1 = nI Y) (hZ : ma 11 2 = nI Z) (hX9 : X < 16) (hY9 : Y < 12) (hZ9 : Z < 10) (hO : ∃ O, ms 21 = nI O ∧ O < 4) (hb1 : mi_iw (q 17) (-50) 50 = true) (hb2 : mi_iw (q 18) (-50) 50 = true) (hb3 : mi_iw (q 19) (-50) 50 = true) (hfew : mc_told ha (q 16) (q 17) (q 18) (q 19) = true → ∀ e ∈ mx_es ha (mm_a ma) q, mg_few e) (hin : mc_told ha (q 16) (q 17) (q 18) (q 19) = true → (∀ e ∈ mx_es ha (mm_a ma) q, ml_ins e = true) → ∀ e ∈ mx_es ha (mm_a ma) q, ml_inn e) (hout : mc_told ha (q 16) (q 17) (q 18) (q 19) = true → (∀ e ∈ mx_es ha (mm_a ma) q, ∀ i, 1 ≤ i → i ≤ ml_N e → mg_at e i = true) → ∀ e ∈ mx_es ha (mm_a ma) q, ml_ins e = true) (htm : mc_told ha (q 16) (q 17) (q 18) (q 19) = true → (∀ e ∈ mx_es ha (mm_a ma) q, ml_inn e) → vf_n32 (mx_f q) ∧ ml_tok (mx_f q) (mx_es ha (mm_a ma) q) mt) (hW : mw_W (ha 5) M) (hP9 : mw_P (ha 5) (ha 9) M) (ka : ∀ (mb : Nat → Nat → Int32) (ms9 : Nat → Int32), ¬ (mx_al ha (mg_S ma) T (mm_a ma) q s R X Y Z) = 45 → (∀ i, i ≠ 12 → mb i = ma i) → (∀ j, j ≠ 26 → ms9 j = ms j) → K (some (.int (mx_al ha (mg_S ma) T (mm_a ma) q s R X Y Z))) (am_W ha hz a1 s1 t1 a2 s2 t2 al mb ms9 mt ol od)) (kf : ∀ (mb : Nat → Nat → Int32) (ms9 : Nat → Int32) (t9 : UInt32), (mx_al ha (mg_S ma) T (mm_a ma) q s R X Y Z) = 45 → mm_ok ma ms mb ms9 → mg_B mb → sx_E (ha 5) (mx_Q ha hz N (mm_a ma) q s R (mg_S ma) 8).toNatClampNeg (sx_go ha hz N (mm_a ma) q s R X Y Z (mg_S ma) mt) (mm_x mb (mm_up ms9) t9) → K (some (.int 45)) (am_W ha hz a1 s1 t1 a2 s2 t2 al mb ms9 t9 ol od)) (hk9 : ha 5 N = 118) : am_Run (d + 7) 133 [.ref 39] (am_W ha hz a1 s1 t1 a2 s2 t2 al ma ms mt ol od) K := by
  have e16 : q 16 = 118 := by rw [hq]; exact hk9
  have e17 : q 17 = mc_val (ma 9) (ha 6 N) := by rw [hq]; rfl
  have e18 : q 18 = mc_val (ma 9) (ha 7 N) := by rw [hq]; rfl
  have e19 : q 19 = mc_val (ma 9) (ha 8 N) := by rw [hq]; rfl
  have e10 : q 10 = ms 19 := by rw [hq]; rfl
  have e12 : q 12 = ms 20 := by rw [hq]; rfl
  have e13 : q 13 = ms 21 := by rw [hq]; rfl
  have e14 : q 14 = ms 22 := by rw [hq]; rfl
  have e15 : q 15 = ms 23 := by rw [hq]; rfl
  have e8 : q 8 = ms 17 := by rw [hq]; rfl
  have e9 : q 9 = ms 18 := by rw [hq]; rfl
  have n116 : ¬ q 16 = 116 := by rw [e16]; decide
  have n120 : ¬ q 16 = 120 := by rw [e16]; decide
  have hmv : ¬ mx_mv (q 16) := by rw [e16]; unfold mx_mv; decide
  refine ⟨rfl, fun P hm hP => ?_⟩
  show P 0 [some (.ref 39), none, none, none, none] [] _ 0 0
  refine s_aload_n hP t133_0 rfl ?_
  refine s_getfield hP t133_1 rfl rfl ?_
  refine s_aload_n hP t133_4 rfl ?_
  refine s_getfield hP t133_5 rfl rfl ?_
  refine s_caload hP t133_8 rfl (by rw [hN]; exact vp_in_nI (by omega) (by decide)) ?_
  rw [hN, nI_clamp (by omega), hkd N hNM, hk9]
  refine s_istore_n_1 hP t133_9 (by exact rfl) ?_
  refine s_aload_n hP t133_10 rfl ?_
  refine s_aload_n hP t133_11 rfl ?_
  refine s_getfield hP t133_12 rfl rfl ?_
  refine s_aload_n hP t133_15 rfl ?_
  refine s_getfield hP t133_16 rfl rfl ?_
  refine s_iaload hP t133_19 rfl (by rw [hN]; exact vp_in_nI (by omega) (by decide)) ?_
  rw [hN, nI_clamp (by omega), hta N hNM]
  refine s_invokevirtual (bc' := 0) (bs' := 0) hP t133_20 rfl rfl rfl rfl rfl ?_
  refine sp132 (htm9 N hNM).1 ?_
  refine s_istore_n_2 hP t133_23 (by exact rfl) ?_
  refine s_aload_n hP t133_24 rfl ?_
  refine s_aload_n hP t133_25 rfl ?_
  refine s_getfield hP t133_26 rfl rfl ?_
  refine s_aload_n hP t133_29 rfl ?_
  refine s_getfield hP t133_30 rfl rfl ?_
  refine s_iaload hP t133_33 rfl (by rw [hN]; exact vp_in_nI (by omega) (by decide)) ?_
  rw [hN, nI_clamp (by omega), htb N hNM]
  refine s_invokevirtual (bc' := 0) (bs' := 0) hP t133_34 rfl rfl rfl rfl rfl ?_
  refine sp132 (htm9 N hNM).2.1 ?_
  refine s_istore_n_3 hP t133_37 (by exact rfl) ?_
  refine s_aload_n hP t133_38 rfl ?_
  refine s_aload_n hP t133_39 rfl ?_
  refine s_getfield hP t133_40 rfl rfl ?_
  refine s_aload_n hP t133_43 rfl ?_
  refine s_getfield hP t133_44 rfl rfl ?_
  refine s_iaload hP t133_47 rfl (by rw [hN]; exact vp_in_nI (by omega) (by decide)) ?_
  rw [hN, nI_clamp (by omega), htc N hNM]
  refine s_invokevirtual (bc' := 0) (bs' := 0) hP t133_48 rfl rfl rfl rfl rfl ?_
  refine sp132 (htm9 N hNM).2.2 ?_
  refine s_istore_4 hP t133_51 (by exact rfl) ?_
  rw [← e17, ← e18, ← e19]
  refine s_iload_n hP t133_53 rfl ?_
  refine s_bipush (v := 103) hP t133_54 (by decide) ?_
  refine s_icmp_eq hP t133_56 (fun q56 => ?_) (fun q56 => ?_)
  · exact absurd q56 (by decide)
  · refine s_iload_n hP t133_59 rfl ?_
    refine s_bipush (v := 108) hP t133_60 (by decide) ?_
    refine s_icmp_eq hP t133_62 (fun q62 => ?_) (fun q62 => ?_)
    · exact absurd q62 (by decide)
    · refine s_iload_n hP t133_65 rfl ?_
      refine s_bipush (v := 100) hP t133_66 (by decide) ?_
      refine s_icmp_eq hP t133_68 (fun q68 => ?_) (fun q68 => ?_)
      · exact absurd q68 (by decide)
      · refine s_iload_n hP t133_71 rfl ?_
        refine s_bipush (v := 112) hP t133_72 (by decide) ?_
        refine s_icmp_ne hP t133_74 (fun q74 => ?_) (fun q74 => ?_)
        · refine s_iload_n hP t133_87 rfl ?_
          refine s_bipush (v := 116) hP t133_88 (by decide) ?_
          refine s_icmp_ne hP t133_90 (fun q90 => ?_) (fun q90 => ?_)
          · refine s_iload_n hP t133_100 rfl ?_
            refine s_bipush (v := 120) hP t133_101 (by decide) ?_
            refine s_icmp_ne hP t133_103 (fun q103 => ?_) (fun q103 => ?_)
            · refine s_iload_n hP t133_112 rfl ?_
              refine s_bipush (v := 114) hP t133_113 (by decide) ?_
              refine s_icmp_eq hP t133_115 (fun q115 => ?_) (fun q115 => ?_)
              · exact absurd q115 (by decide)
              · refine s_iload_n hP t133_118 rfl ?_
                refine s_bipush (v := 105) hP t133_119 (by decide) ?_
                refine s_icmp_ne hP t133_121 (fun q121 => ?_) (fun q121 => ?_)
                · refine s_iload_n hP t133_132 rfl ?_
                  refine s_bipush (v := 113) hP t133_133 (by decide) ?_
                  refine s_icmp_ne hP t133_135 (fun q135 => ?_) (fun q135 => ?_)
                  · refine s_iload_n hP t133_141 rfl ?_
                    refine s_bipush (v := 101) hP t133_142 (by decide) ?_
                    refine s_icmp_eq hP t133_144 (fun q144 => ?_) (fun q144 => ?_)
                    · exact absurd q144 (by decide)
                    · refine s_aload_n hP t133_147 rfl ?_
                      refine s_iload_n hP t133_148 rfl ?_
                      refine s_iload_n hP t133_149 rfl ?_
                      refine s_iload_n hP t133_150 rfl ?_
                      refine s_iload hP t133_151 rfl ?_
                      refine s_invokevirtual (bc' := 0) (bs' := 0) hP t133_153 rfl rfl rfl rfl rfl ?_
                      refine sp129_118 (fun h1 => ?_) (fun h1 => ?_)
                      · refine s_ireturn hP t133_156 rfl rfl ?_
                        have hv : (mx_al ha (mg_S ma) T (mm_a ma) q s R X Y Z) = 110 := mx_al_110 (by rw [e16, told_118]; first | done | exact h1)
                        rw [hv] at ka
                        exact ka ma ms (by decide) (fun _ _ => rfl) (fun _ _ => rfl)
                      · refine s_ireturn hP t133_156 rfl rfl ?_
                        exact kf (am_u2 ma 9 (upd (ma 9) (q 17).toNatClampNeg (mc_clip (q 18 + q 19)))) ms mt (mx_al_45 hmv n116 n120 (by rw [e16, told_118]; first | done | exact h1)) ⟨fun i h4 h8 h9 h11 h12 h14 => by simp only [am_u2, beq_no h9, cond_false], fun j hj => rfl⟩ (mg_B_14 rfl hB) (sx_go_E (ha := ha) (hz := hz) (N := N) (a := mm_a ma) (q := q) (sh := s) (R := R) (X := X) (Y := Y) (Z := Z) (S := mg_S ma) (t := mt) hmv (fun c hc => rfl) (fun j hj => by rw [me_ar, if_pos e16]; rfl) (fun j hj => rfl) (fun p hp h5 => by rw [me_ar_4 (by rw [e16]; decide) (by rw [e16]; decide)]; rfl) (by rw [me_nx_no (by rw [e16]; decide) (by rw [e16]; decide), e8]; rfl) (by rw [e9]; rfl) (fun j hj hj2 hj3 => by
                        have : j = 10 ∨ j = 12 ∨ j = 13 ∨ j = 14 ∨ j = 15 := by omega
                        rcases this with rfl | rfl | rfl | rfl | rfl
                        · rw [me_st_no (by rw [e16]; decide) (by rw [e16]; decide) (by rw [e16]; decide) (by rw [e16]; decide) (by rw [e16]; decide)]; exact e10
                        · rw [me_st_no (by rw [e16]; decide) (by rw [e16]; decide) (by rw [e16]; decide) (by rw [e16]; decide) (by rw [e16]; decide)]; exact e12
                        · rw [me_st_no (by rw [e16]; decide) (by rw [e16]; decide) (by rw [e16]; decide) (by rw [e16]; decide) (by rw [e16]; decide)]; exact e13
                        · rw [me_st_no (by rw [e16]; decide) (by rw [e16]; decide) (by rw [e16]; decide) (by rw [e16]; decide) (by rw [e16]; decide)]; exact e14
                        · rw [me_st_no (by rw [e16]; decide) (by rw [e16]; decide) (by rw [e16]; decide) (by rw [e16]; decide) (by rw [e16]; decide)]; exact e15) (rfl) (fun r hr => rfl))
                      
                  · exact absurd q135 (by decide)
                · exact absurd q121 (by decide)
            · exact absurd q103 (by decide)
          · exact absurd q90 (by decide)
        · exact absurd q74 (by decide)
set_option maxHeartbeats 4000000 in
theorem sp133_116 {d : Nat} {K : am_K} {ha : Nat → Nat → Int32} {hz : Int32} {a1 : Nat → Nat → Int32} {s1 : Nat → Int32} {t1 : UInt32} {a2 : Nat → Nat → Int32} {s2 : Nat → Int32} {t2 : UInt32} {al : Int32} {ma : Nat → Nat → Int32} {ms : Nat → Int32} {mt : UInt32} {ol : Nat → Int64} {od : Nat → UInt64} {T : Nat → Bool} {N M c s R X Y Z : Nat} {q : Nat → Int32} (hq : q = mx_q4 ha N (mm_a ma) (mm_s ms)) (hN : ms 17 = nI N) (hNM : N < M) (hM : hz = nI M) (hM9 : M ≤ 64) (hkd : ∀ i, i < M → ma 1 i = ha 5 i) (hta : ∀ i, i < M → ma 5 i = ha 6 i) (htb : ∀ i, i < M → ma 6 i = ha 7 i) (htc : ∀ i, i < M → ma 7 i = ha 8 i) (htm9 : ∀ i, i < M → mi_term (ha 6 i) = true ∧ mi_term (ha 7 i) = true ∧ mi_term (ha 8 i) = true) (hsh0 : ∀ c, c < 12 → ma 0 c = if ha 0 c = 0 then 45 else ha 0 c) (hshv : ∀ c, c < 12 → ha 0 c = 0 ∨ ha 0 c = 101 ∨ ha 0 c = 98 ∨ ha 0 c = 118) (hrad : ∀ c, c < 12 → ma 2 c = ha 1 c) (hli : ∀ c, c < 12 → ma 3 c = ha 2 c) (hoff : ∀ j, j < 12 → ma 10 j = ha 4 j) (hB : mg_B ma) (hT : ∀ q, q < 1152 → ma 13 q = am_b (T q)) (hm1 : ms 19 = -1 ∨ mg_req ma ms c s R) (hX : ma 11 0 = nI X) (hY : ma 11 1 = nI Y) (hZ : ma 11 2 = nI Z) (hX9 : X < 16) (hY9 : Y < 12) (hZ9 : Z < 10) (hO : ∃ O, ms 21 = nI O ∧ O < 4) (hb1 : mi_iw (q 17) (-50) 50 = true) (hb2 : mi_iw (q 18) (-50) 50 = true) (hb3 : mi_iw (q 19) (-50) 50 = true) (hfew : mc_told ha (q 16) (q 17) (q 18) (q 19) = true → ∀ e ∈ mx_es ha (mm_a ma) q, mg_few e) (hin : mc_told ha (q 16) (q 17) (q 18) (q 19) = true → (∀ e ∈ mx_es ha (mm_a ma) q, ml_ins e = true) → ∀ e ∈ mx_es ha (mm_a ma) q, ml_inn e) (hout : mc_told ha (q 16) (q 17) (q 18) (q 19) = true → (∀ e ∈ mx_es ha (mm_a ma) q, ∀ i, 1 ≤ i → i ≤ ml_N e → mg_at e i = true) → ∀ e ∈ mx_es ha (mm_a ma) q, ml_ins e = true) (htm : mc_told ha (q 16) (q 17) (q 18) (q 19) = true → (∀ e ∈ mx_es ha (mm_a ma) q, ml_inn e) → vf_n32 (mx_f q) ∧ ml_tok (mx_f q) (mx_es ha (mm_a ma) q) mt) (hW : mw_W (ha 5) M) (hP9 : mw_P (ha 5) (ha 9) M) (ka : ∀ (mb : Nat → Nat → Int32) (ms9 : Nat → Int32), ¬ (mx_al ha (mg_S ma) T (mm_a ma) q s R X Y Z) = 45 → (∀ i, i ≠ 12 → mb i = ma i) → (∀ j, j ≠ 26 → ms9 j = ms j) → K (some (.int (mx_al ha (mg_S ma) T (mm_a ma) q s R X Y Z))) (am_W ha hz a1 s1 t1 a2 s2 t2 al mb ms9 mt ol od)) (kf : ∀ (mb : Nat → Nat → Int32) (ms9 : Nat → Int32) (t9 : UInt32), (mx_al ha (mg_S ma) T (mm_a ma) q s R X Y Z) = 45 → mm_ok ma ms mb ms9 → mg_B mb → sx_E (ha 5) (mx_Q ha hz N (mm_a ma) q s R (mg_S ma) 8).toNatClampNeg (sx_go ha hz N (mm_a ma) q s R X Y Z (mg_S ma) mt) (mm_x mb (mm_up ms9) t9) → K (some (.int 45)) (am_W ha hz a1 s1 t1 a2 s2 t2 al mb ms9 t9 ol od)) (hk9 : ha 5 N = 116) : am_Run (d + 7) 133 [.ref 39] (am_W ha hz a1 s1 t1 a2 s2 t2 al ma ms mt ol od) K := by
  have e16 : q 16 = 116 := by rw [hq]; exact hk9
  have e17 : q 17 = mc_val (ma 9) (ha 6 N) := by rw [hq]; rfl
  have e18 : q 18 = mc_val (ma 9) (ha 7 N) := by rw [hq]; rfl
  have e19 : q 19 = mc_val (ma 9) (ha 8 N) := by rw [hq]; rfl
  have e10 : q 10 = ms 19 := by rw [hq]; rfl
  have e12 : q 12 = ms 20 := by rw [hq]; rfl
  have e13 : q 13 = ms 21 := by rw [hq]; rfl
  have e14 : q 14 = ms 22 := by rw [hq]; rfl
  have e15 : q 15 = ms 23 := by rw [hq]; rfl
  have e8 : q 8 = ms 17 := by rw [hq]; rfl
  have e9 : q 9 = ms 18 := by rw [hq]; rfl
  have n116 : q 16 = 116 := e16
  have n120 : ¬ q 16 = 120 := by rw [e16]; decide
  have hmv : ¬ mx_mv (q 16) := by rw [e16]; unfold mx_mv; decide
  refine ⟨rfl, fun P hm hP => ?_⟩
  show P 0 [some (.ref 39), none, none, none, none] [] _ 0 0
  refine s_aload_n hP t133_0 rfl ?_
  refine s_getfield hP t133_1 rfl rfl ?_
  refine s_aload_n hP t133_4 rfl ?_
  refine s_getfield hP t133_5 rfl rfl ?_
  refine s_caload hP t133_8 rfl (by rw [hN]; exact vp_in_nI (by omega) (by decide)) ?_
  rw [hN, nI_clamp (by omega), hkd N hNM, hk9]
  refine s_istore_n_1 hP t133_9 (by exact rfl) ?_
  refine s_aload_n hP t133_10 rfl ?_
  refine s_aload_n hP t133_11 rfl ?_
  refine s_getfield hP t133_12 rfl rfl ?_
  refine s_aload_n hP t133_15 rfl ?_
  refine s_getfield hP t133_16 rfl rfl ?_
  refine s_iaload hP t133_19 rfl (by rw [hN]; exact vp_in_nI (by omega) (by decide)) ?_
  rw [hN, nI_clamp (by omega), hta N hNM]
  refine s_invokevirtual (bc' := 0) (bs' := 0) hP t133_20 rfl rfl rfl rfl rfl ?_
  refine sp132 (htm9 N hNM).1 ?_
  refine s_istore_n_2 hP t133_23 (by exact rfl) ?_
  refine s_aload_n hP t133_24 rfl ?_
  refine s_aload_n hP t133_25 rfl ?_
  refine s_getfield hP t133_26 rfl rfl ?_
  refine s_aload_n hP t133_29 rfl ?_
  refine s_getfield hP t133_30 rfl rfl ?_
  refine s_iaload hP t133_33 rfl (by rw [hN]; exact vp_in_nI (by omega) (by decide)) ?_
  rw [hN, nI_clamp (by omega), htb N hNM]
  refine s_invokevirtual (bc' := 0) (bs' := 0) hP t133_34 rfl rfl rfl rfl rfl ?_
  refine sp132 (htm9 N hNM).2.1 ?_
  refine s_istore_n_3 hP t133_37 (by exact rfl) ?_
  refine s_aload_n hP t133_38 rfl ?_
  refine s_aload_n hP t133_39 rfl ?_
  refine s_getfield hP t133_40 rfl rfl ?_
  refine s_aload_n hP t133_43 rfl ?_
  refine s_getfield hP t133_44 rfl rfl ?_
  refine s_iaload hP t133_47 rfl (by rw [hN]; exact vp_in_nI (by omega) (by decide)) ?_
  rw [hN, nI_clamp (by omega), htc N hNM]
  refine s_invokevirtual (bc' := 0) (bs' := 0) hP t133_48 rfl rfl rfl rfl rfl ?_
  refine sp132 (htm9 N hNM).2.2 ?_
  refine s_istore_4 hP t133_51 (by exact rfl) ?_
  rw [← e17, ← e18, ← e19]
  refine s_iload_n hP t133_53 rfl ?_
  refine s_bipush (v := 103) hP t133_54 (by decide) ?_
  refine s_icmp_eq hP t133_56 (fun q56 => ?_) (fun q56 => ?_)
  · exact absurd q56 (by decide)
  · refine s_iload_n hP t133_59 rfl ?_
    refine s_bipush (v := 108) hP t133_60 (by decide) ?_
    refine s_icmp_eq hP t133_62 (fun q62 => ?_) (fun q62 => ?_)
    · exact absurd q62 (by decide)
    · refine s_iload_n hP t133_65 rfl ?_
      refine s_bipush (v := 100) hP t133_66 (by decide) ?_
      refine s_icmp_eq hP t133_68 (fun q68 => ?_) (fun q68 => ?_)
      · exact absurd q68 (by decide)
      · refine s_iload_n hP t133_71 rfl ?_
        refine s_bipush (v := 112) hP t133_72 (by decide) ?_
        refine s_icmp_ne hP t133_74 (fun q74 => ?_) (fun q74 => ?_)
        · refine s_iload_n hP t133_87 rfl ?_
          refine s_bipush (v := 116) hP t133_88 (by decide) ?_
          refine s_icmp_ne hP t133_90 (fun q90 => ?_) (fun q90 => ?_)
          · exact absurd rfl q90
          · refine s_aload_n hP t133_93 rfl ?_
            refine s_iload_n hP t133_94 rfl ?_
            refine s_iload_n hP t133_95 rfl ?_
            refine s_invokevirtual (bc' := 0) (bs' := 0) hP t133_96 rfl rfl rfl rfl rfl ?_
            have tk : ∀ A B, A < 3 → B < 4 → q 17 = nI A → q 18 = nI B → mx_tool ha (mm_a ma) q = (if ¬ ms 23 = 0 then 116 else if mc_take ha (ma 4) A B = -1 then 119 else 45) := by
              intro A B hA hB h1 h2
              rw [mx_tool, e16, h1, h2, e15, mc_tool, if_pos rfl, nI_clamp (by omega), nI_clamp (by omega)]
              rfl
            have td : ∀ A B, A < 3 → B < 4 → q 17 = nI A → q 18 = nI B → mc_told ha (q 16) (q 17) (q 18) (q 19) = !decide (ha 0 (4 * A + B) = 0) := by
              intro A B hA hB h1 h2
              rw [e16, told_116, h1, h2, mi_slotN, nI_clamp (by omega), mi_iw11 (by omega), show mi_slot (nI A) (nI B) = true by
                show (mi_iw (nI A) 0 (nI 2) && mi_iw (nI B) 0 (nI 3)) = true
                rw [mi_iw_at (by decide) (by omega), mi_iw_at (by decide) (by omega)]
                rfl, Bool.true_and, Bool.true_and, decide_not]
            have tt : ∀ A B, A < 3 → B < 4 → q 17 = nI A → q 18 = nI B → ¬ ma 0 (4 * A + B) = 45 → mc_told ha (q 16) (q 17) (q 18) (q 19) = true := by
              intro A B hA hB4 h1 h2 h3
              rw [td A B hA hB4 h1 h2, decide_eq_false (fun r => h3 ((sh_45 hsh0 hshv (by omega)).mpr r))]
              rfl
            refine sp127 (fun h1 => ?_) (fun A B hA hB4 h1 h2 h3 => ?_) (fun A B hA hB4 h1 h2 h3 h4 => ?_) (fun A B hA hB4 h1 h2 h3 h4 h5 => ?_) (fun A B j hA hB4 h1 h2 h3 h4 h5 h6 => ?_)
            · refine s_ireturn hP t133_99 rfl rfl ?_
              have hv : (mx_al ha (mg_S ma) T (mm_a ma) q s R X Y Z) = 110 := mx_al_110 (by rw [e16, told_116, h1]; rfl)
              rw [hv] at ka
              exact ka ma ms (by decide) (fun _ _ => rfl) (fun _ _ => rfl)
            · refine s_ireturn hP t133_99 rfl rfl ?_
              have hv : (mx_al ha (mg_S ma) T (mm_a ma) q s R X Y Z) = 110 := mx_al_110 (by rw [td A B hA hB4 h1 h2, (sh_45 hsh0 hshv (by omega)).mp h3]; decide)
              rw [hv] at ka
              exact ka ma ms (by decide) (fun _ _ => rfl) (fun _ _ => rfl)
            · have tl : mx_tool ha (mm_a ma) q = 116 := by rw [tk A B hA hB4 h1 h2, if_pos h4]
              refine s_ireturn hP t133_99 rfl rfl ?_
              have hv : (mx_al ha (mg_S ma) T (mm_a ma) q s R X Y Z) = 116 := mx_al_tl hmv (tt A B hA hB4 h1 h2 h3) tl (by decide)
              rw [hv] at ka
              exact ka ma ms (by decide) (fun _ _ => rfl) (fun _ _ => rfl)
            · have ta : mc_take ha (ma 4) A B = -1 := by rw [mc_take, mt_take hsh0 hshv hrad hli hA hB4, h5]
              have tl : mx_tool ha (mm_a ma) q = 119 := by rw [tk A B hA hB4 h1 h2, if_neg (fun r => r h4), if_pos ta]
              refine s_ireturn hP t133_99 rfl rfl ?_
              have hv : (mx_al ha (mg_S ma) T (mm_a ma) q s R X Y Z) = 119 := mx_al_tl hmv (tt A B hA hB4 h1 h2 h3) tl (by decide)
              rw [hv] at ka
              exact ka ma ms (by decide) (fun _ _ => rfl) (fun _ _ => rfl)
            · refine s_ireturn hP t133_99 rfl rfl ?_
              have hta0 : mc_take ha (ma 4) A B = nI (4 * A + j) := by rw [mc_take, mt_take hsh0 hshv hrad hli hA hB4, h6]
              have hta1 : ¬ mc_take ha (ma 4) A B = -1 := by rw [hta0]; exact nI_ne_m1 (by omega)
              have tl : mx_tool ha (mm_a ma) q = 45 := by rw [tk A B hA hB4 h1 h2, if_neg (fun r => r h4), if_neg hta1]
              exact kf ma (am_u1 ms 19 (nI (4 * A + j))) mt (mx_al_45t hmv n120 (tt A B hA hB4 h1 h2 h3) tl) ⟨fun i h4 h8 h9 h11 h12 h14 => rfl, fun j hj => by
              simp only [am_u1, beq_no (show j ≠ 19 by omega), cond_false]⟩ hB (sx_go_E (ha := ha) (hz := hz) (N := N) (a := mm_a ma) (q := q) (sh := s) (R := R) (X := X) (Y := Y) (Z := Z) (S := mg_S ma) (t := mt) hmv (fun c hc => rfl) (fun j hj => by rw [me_ar_2 (by rw [e16]; decide) (by rw [e16]; decide)]; rfl) (fun j hj => rfl) (fun p hp h5 => by rw [me_ar_4 (by rw [e16]; decide) (by rw [e16]; decide)]; rfl) (by rw [me_nx_no (by rw [e16]; decide) (by rw [e16]; decide), e8]; rfl) (by rw [e9]; rfl) (fun j hj hj2 hj3 => by
              have : j = 10 ∨ j = 12 ∨ j = 13 ∨ j = 14 ∨ j = 15 := by omega
              rcases this with rfl | rfl | rfl | rfl | rfl
              · rw [me_st, if_pos e16, mx_a_1, mx_u_no hmv, h1, h2, nI_clamp (by omega), nI_clamp (by omega)]; exact hta0
              · rw [me_st, if_pos e16]; exact e12
              · rw [me_st, if_pos e16]; exact e13
              · rw [me_st, if_pos e16]; exact e14
              · rw [me_st, if_pos e16]; exact e15) (rfl) (fun r hr => rfl))
            
        · exact absurd q74 (by decide)
set_option maxHeartbeats 4000000 in
theorem sp133_120 {d : Nat} {K : am_K} {ha : Nat → Nat → Int32} {hz : Int32} {a1 : Nat → Nat → Int32} {s1 : Nat → Int32} {t1 : UInt32} {a2 : Nat → Nat → Int32} {s2 : Nat → Int32} {t2 : UInt32} {al : Int32} {ma : Nat → Nat → Int32} {ms : Nat → Int32} {mt : UInt32} {ol : Nat → Int64} {od : Nat → UInt64} {T : Nat → Bool} {N M c s R X Y Z : Nat} {q : Nat → Int32} (hq : q = mx_q4 ha N (mm_a ma) (mm_s ms)) (hN : ms 17 = nI N) (hNM : N < M) (hM : hz = nI M) (hM9 : M ≤ 64) (hkd : ∀ i, i < M → ma 1 i = ha 5 i) (hta : ∀ i, i < M → ma 5 i = ha 6 i) (htb : ∀ i, i < M → ma 6 i = ha 7 i) (htc : ∀ i, i < M → ma 7 i = ha 8 i) (htm9 : ∀ i, i < M → mi_term (ha 6 i) = true ∧ mi_term (ha 7 i) = true ∧ mi_term (ha 8 i) = true) (hsh0 : ∀ c, c < 12 → ma 0 c = if ha 0 c = 0 then 45 else ha 0 c) (hshv : ∀ c, c < 12 → ha 0 c = 0 ∨ ha 0 c = 101 ∨ ha 0 c = 98 ∨ ha 0 c = 118) (hrad : ∀ c, c < 12 → ma 2 c = ha 1 c) (hli : ∀ c, c < 12 → ma 3 c = ha 2 c) (hoff : ∀ j, j < 12 → ma 10 j = ha 4 j) (hB : mg_B ma) (hT : ∀ q, q < 1152 → ma 13 q = am_b (T q)) (hm1 : ms 19 = -1 ∨ mg_req ma ms c s R) (hX : ma 11 0 = nI X) (hY : ma 11 1 = nI Y) (hZ : ma 11 2 = nI Z) (hX9 : X < 16) (hY9 : Y < 12) (hZ9 : Z < 10) (hO : ∃ O, ms 21 = nI O ∧ O < 4) (hb1 : mi_iw (q 17) (-50) 50 = true) (hb2 : mi_iw (q 18) (-50) 50 = true) (hb3 : mi_iw (q 19) (-50) 50 = true) (hfew : mc_told ha (q 16) (q 17) (q 18) (q 19) = true → ∀ e ∈ mx_es ha (mm_a ma) q, mg_few e) (hin : mc_told ha (q 16) (q 17) (q 18) (q 19) = true → (∀ e ∈ mx_es ha (mm_a ma) q, ml_ins e = true) → ∀ e ∈ mx_es ha (mm_a ma) q, ml_inn e) (hout : mc_told ha (q 16) (q 17) (q 18) (q 19) = true → (∀ e ∈ mx_es ha (mm_a ma) q, ∀ i, 1 ≤ i → i ≤ ml_N e → mg_at e i = true) → ∀ e ∈ mx_es ha (mm_a ma) q, ml_ins e = true) (htm : mc_told ha (q 16) (q 17) (q 18) (q 19) = true → (∀ e ∈ mx_es ha (mm_a ma) q, ml_inn e) → vf_n32 (mx_f q) ∧ ml_tok (mx_f q) (mx_es ha (mm_a ma) q) mt) (hW : mw_W (ha 5) M) (hP9 : mw_P (ha 5) (ha 9) M) (ka : ∀ (mb : Nat → Nat → Int32) (ms9 : Nat → Int32), ¬ (mx_al ha (mg_S ma) T (mm_a ma) q s R X Y Z) = 45 → (∀ i, i ≠ 12 → mb i = ma i) → (∀ j, j ≠ 26 → ms9 j = ms j) → K (some (.int (mx_al ha (mg_S ma) T (mm_a ma) q s R X Y Z))) (am_W ha hz a1 s1 t1 a2 s2 t2 al mb ms9 mt ol od)) (kf : ∀ (mb : Nat → Nat → Int32) (ms9 : Nat → Int32) (t9 : UInt32), (mx_al ha (mg_S ma) T (mm_a ma) q s R X Y Z) = 45 → mm_ok ma ms mb ms9 → mg_B mb → sx_E (ha 5) (mx_Q ha hz N (mm_a ma) q s R (mg_S ma) 8).toNatClampNeg (sx_go ha hz N (mm_a ma) q s R X Y Z (mg_S ma) mt) (mm_x mb (mm_up ms9) t9) → K (some (.int 45)) (am_W ha hz a1 s1 t1 a2 s2 t2 al mb ms9 t9 ol od)) (hk9 : ha 5 N = 120) : am_Run (d + 7) 133 [.ref 39] (am_W ha hz a1 s1 t1 a2 s2 t2 al ma ms mt ol od) K := by
  have e16 : q 16 = 120 := by rw [hq]; exact hk9
  have e17 : q 17 = mc_val (ma 9) (ha 6 N) := by rw [hq]; rfl
  have e18 : q 18 = mc_val (ma 9) (ha 7 N) := by rw [hq]; rfl
  have e19 : q 19 = mc_val (ma 9) (ha 8 N) := by rw [hq]; rfl
  have e10 : q 10 = ms 19 := by rw [hq]; rfl
  have e12 : q 12 = ms 20 := by rw [hq]; rfl
  have e13 : q 13 = ms 21 := by rw [hq]; rfl
  have e14 : q 14 = ms 22 := by rw [hq]; rfl
  have e15 : q 15 = ms 23 := by rw [hq]; rfl
  have e8 : q 8 = ms 17 := by rw [hq]; rfl
  have e9 : q 9 = ms 18 := by rw [hq]; rfl
  have n116 : ¬ q 16 = 116 := by rw [e16]; decide
  have n120 : q 16 = 120 := e16
  have hmv : ¬ mx_mv (q 16) := by rw [e16]; unfold mx_mv; decide
  refine ⟨rfl, fun P hm hP => ?_⟩
  show P 0 [some (.ref 39), none, none, none, none] [] _ 0 0
  refine s_aload_n hP t133_0 rfl ?_
  refine s_getfield hP t133_1 rfl rfl ?_
  refine s_aload_n hP t133_4 rfl ?_
  refine s_getfield hP t133_5 rfl rfl ?_
  refine s_caload hP t133_8 rfl (by rw [hN]; exact vp_in_nI (by omega) (by decide)) ?_
  rw [hN, nI_clamp (by omega), hkd N hNM, hk9]
  refine s_istore_n_1 hP t133_9 (by exact rfl) ?_
  refine s_aload_n hP t133_10 rfl ?_
  refine s_aload_n hP t133_11 rfl ?_
  refine s_getfield hP t133_12 rfl rfl ?_
  refine s_aload_n hP t133_15 rfl ?_
  refine s_getfield hP t133_16 rfl rfl ?_
  refine s_iaload hP t133_19 rfl (by rw [hN]; exact vp_in_nI (by omega) (by decide)) ?_
  rw [hN, nI_clamp (by omega), hta N hNM]
  refine s_invokevirtual (bc' := 0) (bs' := 0) hP t133_20 rfl rfl rfl rfl rfl ?_
  refine sp132 (htm9 N hNM).1 ?_
  refine s_istore_n_2 hP t133_23 (by exact rfl) ?_
  refine s_aload_n hP t133_24 rfl ?_
  refine s_aload_n hP t133_25 rfl ?_
  refine s_getfield hP t133_26 rfl rfl ?_
  refine s_aload_n hP t133_29 rfl ?_
  refine s_getfield hP t133_30 rfl rfl ?_
  refine s_iaload hP t133_33 rfl (by rw [hN]; exact vp_in_nI (by omega) (by decide)) ?_
  rw [hN, nI_clamp (by omega), htb N hNM]
  refine s_invokevirtual (bc' := 0) (bs' := 0) hP t133_34 rfl rfl rfl rfl rfl ?_
  refine sp132 (htm9 N hNM).2.1 ?_
  refine s_istore_n_3 hP t133_37 (by exact rfl) ?_
  refine s_aload_n hP t133_38 rfl ?_
  refine s_aload_n hP t133_39 rfl ?_
  refine s_getfield hP t133_40 rfl rfl ?_
  refine s_aload_n hP t133_43 rfl ?_
  refine s_getfield hP t133_44 rfl rfl ?_
  refine s_iaload hP t133_47 rfl (by rw [hN]; exact vp_in_nI (by omega) (by decide)) ?_
  rw [hN, nI_clamp (by omega), htc N hNM]
  refine s_invokevirtual (bc' := 0) (bs' := 0) hP t133_48 rfl rfl rfl rfl rfl ?_
  refine sp132 (htm9 N hNM).2.2 ?_
  refine s_istore_4 hP t133_51 (by exact rfl) ?_
  rw [← e17, ← e18, ← e19]
  refine s_iload_n hP t133_53 rfl ?_
  refine s_bipush (v := 103) hP t133_54 (by decide) ?_
  refine s_icmp_eq hP t133_56 (fun q56 => ?_) (fun q56 => ?_)
  · exact absurd q56 (by decide)
  · refine s_iload_n hP t133_59 rfl ?_
    refine s_bipush (v := 108) hP t133_60 (by decide) ?_
    refine s_icmp_eq hP t133_62 (fun q62 => ?_) (fun q62 => ?_)
    · exact absurd q62 (by decide)
    · refine s_iload_n hP t133_65 rfl ?_
      refine s_bipush (v := 100) hP t133_66 (by decide) ?_
      refine s_icmp_eq hP t133_68 (fun q68 => ?_) (fun q68 => ?_)
      · exact absurd q68 (by decide)
      · refine s_iload_n hP t133_71 rfl ?_
        refine s_bipush (v := 112) hP t133_72 (by decide) ?_
        refine s_icmp_ne hP t133_74 (fun q74 => ?_) (fun q74 => ?_)
        · refine s_iload_n hP t133_87 rfl ?_
          refine s_bipush (v := 116) hP t133_88 (by decide) ?_
          refine s_icmp_ne hP t133_90 (fun q90 => ?_) (fun q90 => ?_)
          · refine s_iload_n hP t133_100 rfl ?_
            refine s_bipush (v := 120) hP t133_101 (by decide) ?_
            refine s_icmp_ne hP t133_103 (fun q103 => ?_) (fun q103 => ?_)
            · exact absurd rfl q103
            · refine s_aload_n hP t133_106 rfl ?_
              refine s_iload_n hP t133_107 rfl ?_
              refine s_invokevirtual (bc' := 0) (bs' := 0) hP t133_108 rfl rfl rfl rfl rfl ?_
              have tl : mx_tool ha (mm_a ma) q = if ms 19 = -1 then 115 else 45 := by
                rw [mx_tool, e16, e10, mc_tool, if_neg (by decide), if_neg (fun r => absurd r.1 (by decide))]
                by_cases h : ms 19 = -1
                · rw [if_pos h, if_pos (Or.inl ⟨Or.inr rfl, h⟩)]
                · rw [if_neg h, if_neg (by
                    rintro (⟨-, r⟩ | ⟨r, -⟩)
                    · exact h r
                    · exact absurd r (by decide))]
              refine sp128 (S := mg_S ma) (T := T) (c := c) (s := s) (R := R) (X := X) (Y := Y) (Z := Z) hB hT (hm1.imp id (fun r => ⟨r.1, r.2.1⟩)) (fun r => hm1.resolve_left r) hX hY hZ hX9 hY9 hZ9 (fun h1 => ?_) (fun h1 h2 => ?_) (fun h1 h2 h3 => ?_) (fun h1 h2 h3 => ?_)
              · refine s_ireturn hP t133_111 rfl rfl ?_
                have hv : (mx_al ha (mg_S ma) T (mm_a ma) q s R X Y Z) = 110 := mx_al_110 (by rw [e16, told_120]; first | done | exact h1)
                rw [hv] at ka
                exact ka ma ms (by decide) (fun _ _ => rfl) (fun _ _ => rfl)
              · refine s_ireturn hP t133_111 rfl rfl ?_
                have hv : (mx_al ha (mg_S ma) T (mm_a ma) q s R X Y Z) = 115 := by rw [mx_al_no hmv, if_neg (by rw [e16, told_120, h1]; decide), tl, if_pos h2, if_pos (by decide)]
                rw [hv] at ka
                exact ka ma ms (by decide) (fun _ _ => rfl) (fun _ _ => rfl)
              · refine s_ireturn hP t133_111 rfl rfl ?_
                have hv : (mx_al ha (mg_S ma) T (mm_a ma) q s R X Y Z) = 120 := by rw [mx_al_no hmv, if_neg (by rw [e16, told_120, h1]; decide), tl, if_neg h2, if_neg (fun r => r rfl), if_pos ⟨e16, mx_d_iff.mpr h3⟩]
                rw [hv] at ka
                exact ka ma ms (by decide) (fun _ _ => rfl) (fun _ _ => rfl)
              · refine s_ireturn hP t133_111 rfl rfl ?_
                exact kf (am_u2 ma 9 (upd (ma 9) (q 17).toNatClampNeg (nI (me_lev (fun l => mx_d (mx_meet (mg_S ma) s R X Y l)) Z)))) ms mt (by rw [mx_al_no hmv, if_neg (by rw [e16, told_120, h1]; decide), tl, if_neg h2, if_neg (fun r => r rfl), if_neg (fun r => h3 (mx_d_iff.mp r.2))]) ⟨fun i h4 h8 h9 h11 h12 h14 => by simp only [am_u2, beq_no h9, cond_false], fun j hj => rfl⟩ (mg_B_14 rfl hB) (sx_go_E (ha := ha) (hz := hz) (N := N) (a := mm_a ma) (q := q) (sh := s) (R := R) (X := X) (Y := Y) (Z := Z) (S := mg_S ma) (t := mt) hmv (fun c hc => rfl) (fun j hj => by
                rw [me_ar, if_neg (by rw [e16]; decide), if_pos e16, mx_lv, mc_clip_s _ (by have := me_lev_le (p := fun l => mx_d (mx_meet (mg_S ma) s R X Y l)) Z; omega)]
                rfl) (fun j hj => rfl) (fun p hp h5 => by rw [me_ar_4 (by rw [e16]; decide) (by rw [e16]; decide)]; rfl) (by rw [me_nx_no (by rw [e16]; decide) (by rw [e16]; decide), e8]; rfl) (by rw [e9]; rfl) (fun j hj hj2 hj3 => by
                have : j = 10 ∨ j = 12 ∨ j = 13 ∨ j = 14 ∨ j = 15 := by omega
                rcases this with rfl | rfl | rfl | rfl | rfl
                · rw [me_st_no (by rw [e16]; decide) (by rw [e16]; decide) (by rw [e16]; decide) (by rw [e16]; decide) (by rw [e16]; decide)]; exact e10
                · rw [me_st_no (by rw [e16]; decide) (by rw [e16]; decide) (by rw [e16]; decide) (by rw [e16]; decide) (by rw [e16]; decide)]; exact e12
                · rw [me_st_no (by rw [e16]; decide) (by rw [e16]; decide) (by rw [e16]; decide) (by rw [e16]; decide) (by rw [e16]; decide)]; exact e13
                · rw [me_st_no (by rw [e16]; decide) (by rw [e16]; decide) (by rw [e16]; decide) (by rw [e16]; decide) (by rw [e16]; decide)]; exact e14
                · rw [me_st_no (by rw [e16]; decide) (by rw [e16]; decide) (by rw [e16]; decide) (by rw [e16]; decide) (by rw [e16]; decide)]; exact e15) (rfl) (fun r hr => rfl))
              
          · exact absurd q90 (by decide)
        · exact absurd q74 (by decide)
set_option maxHeartbeats 4000000 in
theorem sp133_114 {d : Nat} {K : am_K} {ha : Nat → Nat → Int32} {hz : Int32} {a1 : Nat → Nat → Int32} {s1 : Nat → Int32} {t1 : UInt32} {a2 : Nat → Nat → Int32} {s2 : Nat → Int32} {t2 : UInt32} {al : Int32} {ma : Nat → Nat → Int32} {ms : Nat → Int32} {mt : UInt32} {ol : Nat → Int64} {od : Nat → UInt64} {T : Nat → Bool} {N M c s R X Y Z : Nat} {q : Nat → Int32} (hq : q = mx_q4 ha N (mm_a ma) (mm_s ms)) (hN : ms 17 = nI N) (hNM : N < M) (hM : hz = nI M) (hM9 : M ≤ 64) (hkd : ∀ i, i < M → ma 1 i = ha 5 i) (hta : ∀ i, i < M → ma 5 i = ha 6 i) (htb : ∀ i, i < M → ma 6 i = ha 7 i) (htc : ∀ i, i < M → ma 7 i = ha 8 i) (htm9 : ∀ i, i < M → mi_term (ha 6 i) = true ∧ mi_term (ha 7 i) = true ∧ mi_term (ha 8 i) = true) (hsh0 : ∀ c, c < 12 → ma 0 c = if ha 0 c = 0 then 45 else ha 0 c) (hshv : ∀ c, c < 12 → ha 0 c = 0 ∨ ha 0 c = 101 ∨ ha 0 c = 98 ∨ ha 0 c = 118) (hrad : ∀ c, c < 12 → ma 2 c = ha 1 c) (hli : ∀ c, c < 12 → ma 3 c = ha 2 c) (hoff : ∀ j, j < 12 → ma 10 j = ha 4 j) (hB : mg_B ma) (hT : ∀ q, q < 1152 → ma 13 q = am_b (T q)) (hm1 : ms 19 = -1 ∨ mg_req ma ms c s R) (hX : ma 11 0 = nI X) (hY : ma 11 1 = nI Y) (hZ : ma 11 2 = nI Z) (hX9 : X < 16) (hY9 : Y < 12) (hZ9 : Z < 10) (hO : ∃ O, ms 21 = nI O ∧ O < 4) (hb1 : mi_iw (q 17) (-50) 50 = true) (hb2 : mi_iw (q 18) (-50) 50 = true) (hb3 : mi_iw (q 19) (-50) 50 = true) (hfew : mc_told ha (q 16) (q 17) (q 18) (q 19) = true → ∀ e ∈ mx_es ha (mm_a ma) q, mg_few e) (hin : mc_told ha (q 16) (q 17) (q 18) (q 19) = true → (∀ e ∈ mx_es ha (mm_a ma) q, ml_ins e = true) → ∀ e ∈ mx_es ha (mm_a ma) q, ml_inn e) (hout : mc_told ha (q 16) (q 17) (q 18) (q 19) = true → (∀ e ∈ mx_es ha (mm_a ma) q, ∀ i, 1 ≤ i → i ≤ ml_N e → mg_at e i = true) → ∀ e ∈ mx_es ha (mm_a ma) q, ml_ins e = true) (htm : mc_told ha (q 16) (q 17) (q 18) (q 19) = true → (∀ e ∈ mx_es ha (mm_a ma) q, ml_inn e) → vf_n32 (mx_f q) ∧ ml_tok (mx_f q) (mx_es ha (mm_a ma) q) mt) (hW : mw_W (ha 5) M) (hP9 : mw_P (ha 5) (ha 9) M) (ka : ∀ (mb : Nat → Nat → Int32) (ms9 : Nat → Int32), ¬ (mx_al ha (mg_S ma) T (mm_a ma) q s R X Y Z) = 45 → (∀ i, i ≠ 12 → mb i = ma i) → (∀ j, j ≠ 26 → ms9 j = ms j) → K (some (.int (mx_al ha (mg_S ma) T (mm_a ma) q s R X Y Z))) (am_W ha hz a1 s1 t1 a2 s2 t2 al mb ms9 mt ol od)) (kf : ∀ (mb : Nat → Nat → Int32) (ms9 : Nat → Int32) (t9 : UInt32), (mx_al ha (mg_S ma) T (mm_a ma) q s R X Y Z) = 45 → mm_ok ma ms mb ms9 → mg_B mb → sx_E (ha 5) (mx_Q ha hz N (mm_a ma) q s R (mg_S ma) 8).toNatClampNeg (sx_go ha hz N (mm_a ma) q s R X Y Z (mg_S ma) mt) (mm_x mb (mm_up ms9) t9) → K (some (.int 45)) (am_W ha hz a1 s1 t1 a2 s2 t2 al mb ms9 t9 ol od)) (hk9 : ha 5 N = 114) : am_Run (d + 7) 133 [.ref 39] (am_W ha hz a1 s1 t1 a2 s2 t2 al ma ms mt ol od) K := by
  have e16 : q 16 = 114 := by rw [hq]; exact hk9
  have e17 : q 17 = mc_val (ma 9) (ha 6 N) := by rw [hq]; rfl
  have e18 : q 18 = mc_val (ma 9) (ha 7 N) := by rw [hq]; rfl
  have e19 : q 19 = mc_val (ma 9) (ha 8 N) := by rw [hq]; rfl
  have e10 : q 10 = ms 19 := by rw [hq]; rfl
  have e12 : q 12 = ms 20 := by rw [hq]; rfl
  have e13 : q 13 = ms 21 := by rw [hq]; rfl
  have e14 : q 14 = ms 22 := by rw [hq]; rfl
  have e15 : q 15 = ms 23 := by rw [hq]; rfl
  have e8 : q 8 = ms 17 := by rw [hq]; rfl
  have e9 : q 9 = ms 18 := by rw [hq]; rfl
  have n116 : ¬ q 16 = 116 := by rw [e16]; decide
  have n120 : ¬ q 16 = 120 := by rw [e16]; decide
  have hmv : ¬ mx_mv (q 16) := by rw [e16]; unfold mx_mv; decide
  refine ⟨rfl, fun P hm hP => ?_⟩
  show P 0 [some (.ref 39), none, none, none, none] [] _ 0 0
  refine s_aload_n hP t133_0 rfl ?_
  refine s_getfield hP t133_1 rfl rfl ?_
  refine s_aload_n hP t133_4 rfl ?_
  refine s_getfield hP t133_5 rfl rfl ?_
  refine s_caload hP t133_8 rfl (by rw [hN]; exact vp_in_nI (by omega) (by decide)) ?_
  rw [hN, nI_clamp (by omega), hkd N hNM, hk9]
  refine s_istore_n_1 hP t133_9 (by exact rfl) ?_
  refine s_aload_n hP t133_10 rfl ?_
  refine s_aload_n hP t133_11 rfl ?_
  refine s_getfield hP t133_12 rfl rfl ?_
  refine s_aload_n hP t133_15 rfl ?_
  refine s_getfield hP t133_16 rfl rfl ?_
  refine s_iaload hP t133_19 rfl (by rw [hN]; exact vp_in_nI (by omega) (by decide)) ?_
  rw [hN, nI_clamp (by omega), hta N hNM]
  refine s_invokevirtual (bc' := 0) (bs' := 0) hP t133_20 rfl rfl rfl rfl rfl ?_
  refine sp132 (htm9 N hNM).1 ?_
  refine s_istore_n_2 hP t133_23 (by exact rfl) ?_
  refine s_aload_n hP t133_24 rfl ?_
  refine s_aload_n hP t133_25 rfl ?_
  refine s_getfield hP t133_26 rfl rfl ?_
  refine s_aload_n hP t133_29 rfl ?_
  refine s_getfield hP t133_30 rfl rfl ?_
  refine s_iaload hP t133_33 rfl (by rw [hN]; exact vp_in_nI (by omega) (by decide)) ?_
  rw [hN, nI_clamp (by omega), htb N hNM]
  refine s_invokevirtual (bc' := 0) (bs' := 0) hP t133_34 rfl rfl rfl rfl rfl ?_
  refine sp132 (htm9 N hNM).2.1 ?_
  refine s_istore_n_3 hP t133_37 (by exact rfl) ?_
  refine s_aload_n hP t133_38 rfl ?_
  refine s_aload_n hP t133_39 rfl ?_
  refine s_getfield hP t133_40 rfl rfl ?_
  refine s_aload_n hP t133_43 rfl ?_
  refine s_getfield hP t133_44 rfl rfl ?_
  refine s_iaload hP t133_47 rfl (by rw [hN]; exact vp_in_nI (by omega) (by decide)) ?_
  rw [hN, nI_clamp (by omega), htc N hNM]
  refine s_invokevirtual (bc' := 0) (bs' := 0) hP t133_48 rfl rfl rfl rfl rfl ?_
  refine sp132 (htm9 N hNM).2.2 ?_
  refine s_istore_4 hP t133_51 (by exact rfl) ?_
  rw [← e17, ← e18, ← e19]
  refine s_iload_n hP t133_53 rfl ?_
  refine s_bipush (v := 103) hP t133_54 (by decide) ?_
  refine s_icmp_eq hP t133_56 (fun q56 => ?_) (fun q56 => ?_)
  · exact absurd q56 (by decide)
  · refine s_iload_n hP t133_59 rfl ?_
    refine s_bipush (v := 108) hP t133_60 (by decide) ?_
    refine s_icmp_eq hP t133_62 (fun q62 => ?_) (fun q62 => ?_)
    · exact absurd q62 (by decide)
    · refine s_iload_n hP t133_65 rfl ?_
      refine s_bipush (v := 100) hP t133_66 (by decide) ?_
      refine s_icmp_eq hP t133_68 (fun q68 => ?_) (fun q68 => ?_)
      · exact absurd q68 (by decide)
      · refine s_iload_n hP t133_71 rfl ?_
        refine s_bipush (v := 112) hP t133_72 (by decide) ?_
        refine s_icmp_ne hP t133_74 (fun q74 => ?_) (fun q74 => ?_)
        · refine s_iload_n hP t133_87 rfl ?_
          refine s_bipush (v := 116) hP t133_88 (by decide) ?_
          refine s_icmp_ne hP t133_90 (fun q90 => ?_) (fun q90 => ?_)
          · refine s_iload_n hP t133_100 rfl ?_
            refine s_bipush (v := 120) hP t133_101 (by decide) ?_
            refine s_icmp_ne hP t133_103 (fun q103 => ?_) (fun q103 => ?_)
            · refine s_iload_n hP t133_112 rfl ?_
              refine s_bipush (v := 114) hP t133_113 (by decide) ?_
              refine s_icmp_eq hP t133_115 (fun q115 => ?_) (fun q115 => ?_)
              · refine s_aload_n hP t133_124 rfl ?_
                refine s_iload_n hP t133_125 rfl ?_
                refine s_iload_n hP t133_126 rfl ?_
                refine s_iload_n hP t133_127 rfl ?_
                refine s_invokevirtual (bc' := 0) (bs' := 0) hP t133_128 rfl rfl rfl rfl rfl ?_
                obtain ⟨j, hj, hc, hpt⟩ := mw_W_o hW hP9 hNM (by rw [hk9]; decide)
                have hc2 : mw_cl (ma 1) N j := mw_cl_congr (fun i hi => (hkd i (by omega)).symm) hc
                have en : me_ent (q 16) (q 17) (q 18) = decide (0 < q 17) := by rw [e16]; rfl
                refine sp130_114 (j := j) hN (by omega) hc2 (by omega) (by rw [hkd N hNM, hk9]; decide) (fun h1 => ?_) (fun h1 h2 => ?_) (fun h1 h2 => ?_)
                · refine s_ireturn hP t133_131 rfl rfl ?_
                  have hv : (mx_al ha (mg_S ma) T (mm_a ma) q s R X Y Z) = 110 := mx_al_110 (by rw [e16, told_114]; first | done | exact h1)
                  rw [hv] at ka
                  exact ka ma ms (by decide) (fun _ _ => rfl) (fun _ _ => rfl)
                · refine s_ireturn hP t133_131 rfl rfl ?_
                  have et : me_ent (q 16) (q 17) (q 18) = true := en.trans (decide_eq_true h2)
                  exact kf (am_u2 ma 8 (upd (ma 8) N (q 17))) ms mt (mx_al_45 hmv n116 n120 (by rw [e16, told_114]; first | done | exact h1)) ⟨fun i h4 h8 h9 h11 h12 h14 => by simp only [am_u2, beq_no h8, cond_false], fun j hj => rfl⟩ (mg_B_14 rfl hB) (sx_go_E (ha := ha) (hz := hz) (N := N) (a := mm_a ma) (q := q) (sh := s) (R := R) (X := X) (Y := Y) (Z := Z) (S := mg_S ma) (t := mt) hmv (fun c hc => rfl) (fun j hj => by rw [me_ar_2 (by rw [e16]; decide) (by rw [e16]; decide)]; rfl) (fun j hj => rfl) (fun p hp h5 => by rw [me_ar, if_neg (by rw [e16]; decide), if_neg (by rw [e16]; decide), if_pos (Or.inl e16), if_pos et]; rfl) (by rw [me_nx, if_pos (Or.inl e16), if_pos et, e8]; rfl) (by rw [e9]; rfl) (fun j hj hj2 hj3 => by
                  have : j = 10 ∨ j = 12 ∨ j = 13 ∨ j = 14 ∨ j = 15 := by omega
                  rcases this with rfl | rfl | rfl | rfl | rfl
                  · rw [me_st_no (by rw [e16]; decide) (by rw [e16]; decide) (by rw [e16]; decide) (by rw [e16]; decide) (by rw [e16]; decide)]; exact e10
                  · rw [me_st_no (by rw [e16]; decide) (by rw [e16]; decide) (by rw [e16]; decide) (by rw [e16]; decide) (by rw [e16]; decide)]; exact e12
                  · rw [me_st_no (by rw [e16]; decide) (by rw [e16]; decide) (by rw [e16]; decide) (by rw [e16]; decide) (by rw [e16]; decide)]; exact e13
                  · rw [me_st_no (by rw [e16]; decide) (by rw [e16]; decide) (by rw [e16]; decide) (by rw [e16]; decide) (by rw [e16]; decide)]; exact e14
                  · rw [me_st_no (by rw [e16]; decide) (by rw [e16]; decide) (by rw [e16]; decide) (by rw [e16]; decide) (by rw [e16]; decide)]; exact e15) (rfl) (fun r hr => rfl))
                · refine s_ireturn hP t133_131 rfl rfl ?_
                  have et : ¬ me_ent (q 16) (q 17) (q 18) = true := by rw [en, decide_eq_false h2]; decide
                  have nx : me_nx ha hz N (mx_a ha (mm_a ma) q s R (mg_S ma)) q = nI j + 1 := by rw [me_nx, if_pos (Or.inl e16), if_neg et, hpt]
                  exact kf (am_u2 ma 8 (upd (ma 8) N (q 17))) (am_u1 ms 17 (nI j)) mt (mx_al_45 hmv n116 n120 (by rw [e16, told_114]; first | done | exact h1)) ⟨fun i h4 h8 h9 h11 h12 h14 => by simp only [am_u2, beq_no h8, cond_false], fun j hj => by
                  simp only [am_u1, beq_no (show j ≠ 17 by omega), cond_false]⟩ (mg_B_14 rfl hB) (sx_go_E (ha := ha) (hz := hz) (N := N) (a := mm_a ma) (q := q) (sh := s) (R := R) (X := X) (Y := Y) (Z := Z) (S := mg_S ma) (t := mt) hmv (fun c hc => rfl) (fun j hj => by rw [me_ar_2 (by rw [e16]; decide) (by rw [e16]; decide)]; rfl) (fun j hj => rfl) (fun p hp h5 => by
                  rw [mx_Q_8, nx, nI_1, nI_clamp (by omega), mw_pop hc.2.1, hc.2.2.1, List.tail_cons] at hp
                  have hpN := (mw_mem hp).1
                  rw [me_ar, if_neg (by rw [e16]; decide), if_neg (by rw [e16]; decide), if_pos (Or.inl e16), if_neg et]
                  exact (pk_un (show p ≠ N by omega)).symm) (nx) (by rw [e9]; rfl) (fun j hj hj2 hj3 => by
                  have : j = 10 ∨ j = 12 ∨ j = 13 ∨ j = 14 ∨ j = 15 := by omega
                  rcases this with rfl | rfl | rfl | rfl | rfl
                  · rw [me_st_no (by rw [e16]; decide) (by rw [e16]; decide) (by rw [e16]; decide) (by rw [e16]; decide) (by rw [e16]; decide)]; exact e10
                  · rw [me_st_no (by rw [e16]; decide) (by rw [e16]; decide) (by rw [e16]; decide) (by rw [e16]; decide) (by rw [e16]; decide)]; exact e12
                  · rw [me_st_no (by rw [e16]; decide) (by rw [e16]; decide) (by rw [e16]; decide) (by rw [e16]; decide) (by rw [e16]; decide)]; exact e13
                  · rw [me_st_no (by rw [e16]; decide) (by rw [e16]; decide) (by rw [e16]; decide) (by rw [e16]; decide) (by rw [e16]; decide)]; exact e14
                  · rw [me_st_no (by rw [e16]; decide) (by rw [e16]; decide) (by rw [e16]; decide) (by rw [e16]; decide) (by rw [e16]; decide)]; exact e15) (rfl) (fun r hr => rfl))
                
              · exact absurd rfl q115
            · exact absurd q103 (by decide)
          · exact absurd q90 (by decide)
        · exact absurd q74 (by decide)
set_option maxHeartbeats 4000000 in
theorem sp133_105 {d : Nat} {K : am_K} {ha : Nat → Nat → Int32} {hz : Int32} {a1 : Nat → Nat → Int32} {s1 : Nat → Int32} {t1 : UInt32} {a2 : Nat → Nat → Int32} {s2 : Nat → Int32} {t2 : UInt32} {al : Int32} {ma : Nat → Nat → Int32} {ms : Nat → Int32} {mt : UInt32} {ol : Nat → Int64} {od : Nat → UInt64} {T : Nat → Bool} {N M c s R X Y Z : Nat} {q : Nat → Int32} (hq : q = mx_q4 ha N (mm_a ma) (mm_s ms)) (hN : ms 17 = nI N) (hNM : N < M) (hM : hz = nI M) (hM9 : M ≤ 64) (hkd : ∀ i, i < M → ma 1 i = ha 5 i) (hta : ∀ i, i < M → ma 5 i = ha 6 i) (htb : ∀ i, i < M → ma 6 i = ha 7 i) (htc : ∀ i, i < M → ma 7 i = ha 8 i) (htm9 : ∀ i, i < M → mi_term (ha 6 i) = true ∧ mi_term (ha 7 i) = true ∧ mi_term (ha 8 i) = true) (hsh0 : ∀ c, c < 12 → ma 0 c = if ha 0 c = 0 then 45 else ha 0 c) (hshv : ∀ c, c < 12 → ha 0 c = 0 ∨ ha 0 c = 101 ∨ ha 0 c = 98 ∨ ha 0 c = 118) (hrad : ∀ c, c < 12 → ma 2 c = ha 1 c) (hli : ∀ c, c < 12 → ma 3 c = ha 2 c) (hoff : ∀ j, j < 12 → ma 10 j = ha 4 j) (hB : mg_B ma) (hT : ∀ q, q < 1152 → ma 13 q = am_b (T q)) (hm1 : ms 19 = -1 ∨ mg_req ma ms c s R) (hX : ma 11 0 = nI X) (hY : ma 11 1 = nI Y) (hZ : ma 11 2 = nI Z) (hX9 : X < 16) (hY9 : Y < 12) (hZ9 : Z < 10) (hO : ∃ O, ms 21 = nI O ∧ O < 4) (hb1 : mi_iw (q 17) (-50) 50 = true) (hb2 : mi_iw (q 18) (-50) 50 = true) (hb3 : mi_iw (q 19) (-50) 50 = true) (hfew : mc_told ha (q 16) (q 17) (q 18) (q 19) = true → ∀ e ∈ mx_es ha (mm_a ma) q, mg_few e) (hin : mc_told ha (q 16) (q 17) (q 18) (q 19) = true → (∀ e ∈ mx_es ha (mm_a ma) q, ml_ins e = true) → ∀ e ∈ mx_es ha (mm_a ma) q, ml_inn e) (hout : mc_told ha (q 16) (q 17) (q 18) (q 19) = true → (∀ e ∈ mx_es ha (mm_a ma) q, ∀ i, 1 ≤ i → i ≤ ml_N e → mg_at e i = true) → ∀ e ∈ mx_es ha (mm_a ma) q, ml_ins e = true) (htm : mc_told ha (q 16) (q 17) (q 18) (q 19) = true → (∀ e ∈ mx_es ha (mm_a ma) q, ml_inn e) → vf_n32 (mx_f q) ∧ ml_tok (mx_f q) (mx_es ha (mm_a ma) q) mt) (hW : mw_W (ha 5) M) (hP9 : mw_P (ha 5) (ha 9) M) (ka : ∀ (mb : Nat → Nat → Int32) (ms9 : Nat → Int32), ¬ (mx_al ha (mg_S ma) T (mm_a ma) q s R X Y Z) = 45 → (∀ i, i ≠ 12 → mb i = ma i) → (∀ j, j ≠ 26 → ms9 j = ms j) → K (some (.int (mx_al ha (mg_S ma) T (mm_a ma) q s R X Y Z))) (am_W ha hz a1 s1 t1 a2 s2 t2 al mb ms9 mt ol od)) (kf : ∀ (mb : Nat → Nat → Int32) (ms9 : Nat → Int32) (t9 : UInt32), (mx_al ha (mg_S ma) T (mm_a ma) q s R X Y Z) = 45 → mm_ok ma ms mb ms9 → mg_B mb → sx_E (ha 5) (mx_Q ha hz N (mm_a ma) q s R (mg_S ma) 8).toNatClampNeg (sx_go ha hz N (mm_a ma) q s R X Y Z (mg_S ma) mt) (mm_x mb (mm_up ms9) t9) → K (some (.int 45)) (am_W ha hz a1 s1 t1 a2 s2 t2 al mb ms9 t9 ol od)) (hk9 : ha 5 N = 105) : am_Run (d + 7) 133 [.ref 39] (am_W ha hz a1 s1 t1 a2 s2 t2 al ma ms mt ol od) K := by
  have e16 : q 16 = 105 := by rw [hq]; exact hk9
  have e17 : q 17 = mc_val (ma 9) (ha 6 N) := by rw [hq]; rfl
  have e18 : q 18 = mc_val (ma 9) (ha 7 N) := by rw [hq]; rfl
  have e19 : q 19 = mc_val (ma 9) (ha 8 N) := by rw [hq]; rfl
  have e10 : q 10 = ms 19 := by rw [hq]; rfl
  have e12 : q 12 = ms 20 := by rw [hq]; rfl
  have e13 : q 13 = ms 21 := by rw [hq]; rfl
  have e14 : q 14 = ms 22 := by rw [hq]; rfl
  have e15 : q 15 = ms 23 := by rw [hq]; rfl
  have e8 : q 8 = ms 17 := by rw [hq]; rfl
  have e9 : q 9 = ms 18 := by rw [hq]; rfl
  have n116 : ¬ q 16 = 116 := by rw [e16]; decide
  have n120 : ¬ q 16 = 120 := by rw [e16]; decide
  have hmv : ¬ mx_mv (q 16) := by rw [e16]; unfold mx_mv; decide
  refine ⟨rfl, fun P hm hP => ?_⟩
  show P 0 [some (.ref 39), none, none, none, none] [] _ 0 0
  refine s_aload_n hP t133_0 rfl ?_
  refine s_getfield hP t133_1 rfl rfl ?_
  refine s_aload_n hP t133_4 rfl ?_
  refine s_getfield hP t133_5 rfl rfl ?_
  refine s_caload hP t133_8 rfl (by rw [hN]; exact vp_in_nI (by omega) (by decide)) ?_
  rw [hN, nI_clamp (by omega), hkd N hNM, hk9]
  refine s_istore_n_1 hP t133_9 (by exact rfl) ?_
  refine s_aload_n hP t133_10 rfl ?_
  refine s_aload_n hP t133_11 rfl ?_
  refine s_getfield hP t133_12 rfl rfl ?_
  refine s_aload_n hP t133_15 rfl ?_
  refine s_getfield hP t133_16 rfl rfl ?_
  refine s_iaload hP t133_19 rfl (by rw [hN]; exact vp_in_nI (by omega) (by decide)) ?_
  rw [hN, nI_clamp (by omega), hta N hNM]
  refine s_invokevirtual (bc' := 0) (bs' := 0) hP t133_20 rfl rfl rfl rfl rfl ?_
  refine sp132 (htm9 N hNM).1 ?_
  refine s_istore_n_2 hP t133_23 (by exact rfl) ?_
  refine s_aload_n hP t133_24 rfl ?_
  refine s_aload_n hP t133_25 rfl ?_
  refine s_getfield hP t133_26 rfl rfl ?_
  refine s_aload_n hP t133_29 rfl ?_
  refine s_getfield hP t133_30 rfl rfl ?_
  refine s_iaload hP t133_33 rfl (by rw [hN]; exact vp_in_nI (by omega) (by decide)) ?_
  rw [hN, nI_clamp (by omega), htb N hNM]
  refine s_invokevirtual (bc' := 0) (bs' := 0) hP t133_34 rfl rfl rfl rfl rfl ?_
  refine sp132 (htm9 N hNM).2.1 ?_
  refine s_istore_n_3 hP t133_37 (by exact rfl) ?_
  refine s_aload_n hP t133_38 rfl ?_
  refine s_aload_n hP t133_39 rfl ?_
  refine s_getfield hP t133_40 rfl rfl ?_
  refine s_aload_n hP t133_43 rfl ?_
  refine s_getfield hP t133_44 rfl rfl ?_
  refine s_iaload hP t133_47 rfl (by rw [hN]; exact vp_in_nI (by omega) (by decide)) ?_
  rw [hN, nI_clamp (by omega), htc N hNM]
  refine s_invokevirtual (bc' := 0) (bs' := 0) hP t133_48 rfl rfl rfl rfl rfl ?_
  refine sp132 (htm9 N hNM).2.2 ?_
  refine s_istore_4 hP t133_51 (by exact rfl) ?_
  rw [← e17, ← e18, ← e19]
  refine s_iload_n hP t133_53 rfl ?_
  refine s_bipush (v := 103) hP t133_54 (by decide) ?_
  refine s_icmp_eq hP t133_56 (fun q56 => ?_) (fun q56 => ?_)
  · exact absurd q56 (by decide)
  · refine s_iload_n hP t133_59 rfl ?_
    refine s_bipush (v := 108) hP t133_60 (by decide) ?_
    refine s_icmp_eq hP t133_62 (fun q62 => ?_) (fun q62 => ?_)
    · exact absurd q62 (by decide)
    · refine s_iload_n hP t133_65 rfl ?_
      refine s_bipush (v := 100) hP t133_66 (by decide) ?_
      refine s_icmp_eq hP t133_68 (fun q68 => ?_) (fun q68 => ?_)
      · exact absurd q68 (by decide)
      · refine s_iload_n hP t133_71 rfl ?_
        refine s_bipush (v := 112) hP t133_72 (by decide) ?_
        refine s_icmp_ne hP t133_74 (fun q74 => ?_) (fun q74 => ?_)
        · refine s_iload_n hP t133_87 rfl ?_
          refine s_bipush (v := 116) hP t133_88 (by decide) ?_
          refine s_icmp_ne hP t133_90 (fun q90 => ?_) (fun q90 => ?_)
          · refine s_iload_n hP t133_100 rfl ?_
            refine s_bipush (v := 120) hP t133_101 (by decide) ?_
            refine s_icmp_ne hP t133_103 (fun q103 => ?_) (fun q103 => ?_)
            · refine s_iload_n hP t133_112 rfl ?_
              refine s_bipush (v := 114) hP t133_113 (by decide) ?_
              refine s_icmp_eq hP t133_115 (fun q115 => ?_) (fun q115 => ?_)
              · exact absurd q115 (by decide)
              · refine s_iload_n hP t133_118 rfl ?_
                refine s_bipush (v := 105) hP t133_119 (by decide) ?_
                refine s_icmp_ne hP t133_121 (fun q121 => ?_) (fun q121 => ?_)
                · exact absurd rfl q121
                · refine s_aload_n hP t133_124 rfl ?_
                  refine s_iload_n hP t133_125 rfl ?_
                  refine s_iload_n hP t133_126 rfl ?_
                  refine s_iload_n hP t133_127 rfl ?_
                  refine s_invokevirtual (bc' := 0) (bs' := 0) hP t133_128 rfl rfl rfl rfl rfl ?_
                  obtain ⟨j, hj, hc, hpt⟩ := mw_W_o hW hP9 hNM (by rw [hk9]; decide)
                  have hc2 : mw_cl (ma 1) N j := mw_cl_congr (fun i hi => (hkd i (by omega)).symm) hc
                  have en : me_ent (q 16) (q 17) (q 18) = decide (q 18 < q 17) := by rw [e16]; rfl
                  refine sp130_105 (j := j) hN (by omega) hc2 (by omega) (by rw [hkd N hNM, hk9]; decide) (fun h2 => ?_) (fun h2 => ?_)
                  · refine s_ireturn hP t133_131 rfl rfl ?_
                    have et : me_ent (q 16) (q 17) (q 18) = true := en.trans (decide_eq_true h2)
                    exact kf (am_u2 ma 8 (upd (ma 8) N (q 17))) ms mt (mx_al_45 hmv n116 n120 (by rw [e16, told_105]; first | done | exact rfl)) ⟨fun i h4 h8 h9 h11 h12 h14 => by simp only [am_u2, beq_no h8, cond_false], fun j hj => rfl⟩ (mg_B_14 rfl hB) (sx_go_E (ha := ha) (hz := hz) (N := N) (a := mm_a ma) (q := q) (sh := s) (R := R) (X := X) (Y := Y) (Z := Z) (S := mg_S ma) (t := mt) hmv (fun c hc => rfl) (fun j hj => by rw [me_ar_2 (by rw [e16]; decide) (by rw [e16]; decide)]; rfl) (fun j hj => rfl) (fun p hp h5 => by rw [me_ar, if_neg (by rw [e16]; decide), if_neg (by rw [e16]; decide), if_pos (Or.inr e16), if_pos et]; rfl) (by rw [me_nx, if_pos (Or.inr e16), if_pos et, e8]; rfl) (by rw [e9]; rfl) (fun j hj hj2 hj3 => by
                    have : j = 10 ∨ j = 12 ∨ j = 13 ∨ j = 14 ∨ j = 15 := by omega
                    rcases this with rfl | rfl | rfl | rfl | rfl
                    · rw [me_st_no (by rw [e16]; decide) (by rw [e16]; decide) (by rw [e16]; decide) (by rw [e16]; decide) (by rw [e16]; decide)]; exact e10
                    · rw [me_st_no (by rw [e16]; decide) (by rw [e16]; decide) (by rw [e16]; decide) (by rw [e16]; decide) (by rw [e16]; decide)]; exact e12
                    · rw [me_st_no (by rw [e16]; decide) (by rw [e16]; decide) (by rw [e16]; decide) (by rw [e16]; decide) (by rw [e16]; decide)]; exact e13
                    · rw [me_st_no (by rw [e16]; decide) (by rw [e16]; decide) (by rw [e16]; decide) (by rw [e16]; decide) (by rw [e16]; decide)]; exact e14
                    · rw [me_st_no (by rw [e16]; decide) (by rw [e16]; decide) (by rw [e16]; decide) (by rw [e16]; decide) (by rw [e16]; decide)]; exact e15) (rfl) (fun r hr => rfl))
                  · refine s_ireturn hP t133_131 rfl rfl ?_
                    have et : ¬ me_ent (q 16) (q 17) (q 18) = true := by rw [en, decide_eq_false h2]; decide
                    have nx : me_nx ha hz N (mx_a ha (mm_a ma) q s R (mg_S ma)) q = nI j + 1 := by rw [me_nx, if_pos (Or.inr e16), if_neg et, hpt]
                    exact kf (am_u2 ma 8 (upd (ma 8) N (q 17))) (am_u1 ms 17 (nI j)) mt (mx_al_45 hmv n116 n120 (by rw [e16, told_105]; first | done | exact rfl)) ⟨fun i h4 h8 h9 h11 h12 h14 => by simp only [am_u2, beq_no h8, cond_false], fun j hj => by
                    simp only [am_u1, beq_no (show j ≠ 17 by omega), cond_false]⟩ (mg_B_14 rfl hB) (sx_go_E (ha := ha) (hz := hz) (N := N) (a := mm_a ma) (q := q) (sh := s) (R := R) (X := X) (Y := Y) (Z := Z) (S := mg_S ma) (t := mt) hmv (fun c hc => rfl) (fun j hj => by rw [me_ar_2 (by rw [e16]; decide) (by rw [e16]; decide)]; rfl) (fun j hj => rfl) (fun p hp h5 => by
                    rw [mx_Q_8, nx, nI_1, nI_clamp (by omega), mw_pop hc.2.1, hc.2.2.1, List.tail_cons] at hp
                    have hpN := (mw_mem hp).1
                    rw [me_ar, if_neg (by rw [e16]; decide), if_neg (by rw [e16]; decide), if_pos (Or.inr e16), if_neg et]
                    exact (pk_un (show p ≠ N by omega)).symm) (nx) (by rw [e9]; rfl) (fun j hj hj2 hj3 => by
                    have : j = 10 ∨ j = 12 ∨ j = 13 ∨ j = 14 ∨ j = 15 := by omega
                    rcases this with rfl | rfl | rfl | rfl | rfl
                    · rw [me_st_no (by rw [e16]; decide) (by rw [e16]; decide) (by rw [e16]; decide) (by rw [e16]; decide) (by rw [e16]; decide)]; exact e10
                    · rw [me_st_no (by rw [e16]; decide) (by rw [e16]; decide) (by rw [e16]; decide) (by rw [e16]; decide) (by rw [e16]; decide)]; exact e12
                    · rw [me_st_no (by rw [e16]; decide) (by rw [e16]; decide) (by rw [e16]; decide) (by rw [e16]; decide) (by rw [e16]; decide)]; exact e13
                    · rw [me_st_no (by rw [e16]; decide) (by rw [e16]; decide) (by rw [e16]; decide) (by rw [e16]; decide) (by rw [e16]; decide)]; exact e14
                    · rw [me_st_no (by rw [e16]; decide) (by rw [e16]; decide) (by rw [e16]; decide) (by rw [e16]; decide) (by rw [e16]; decide)]; exact e15) (rfl) (fun r hr => rfl))
                  
            · exact absurd q103 (by decide)
          · exact absurd q90 (by decide)
        · exact absurd q74 (by decide)
set_option maxHeartbeats 4000000 in
theorem sp133_101 {d : Nat} {K : am_K} {ha : Nat → Nat → Int32} {hz : Int32} {a1 : Nat → Nat → Int32} {s1 : Nat → Int32} {t1 : UInt32} {a2 : Nat → Nat → Int32} {s2 : Nat → Int32} {t2 : UInt32} {al : Int32} {ma : Nat → Nat → Int32} {ms : Nat → Int32} {mt : UInt32} {ol : Nat → Int64} {od : Nat → UInt64} {T : Nat → Bool} {N M c s R X Y Z : Nat} {q : Nat → Int32} (hq : q = mx_q4 ha N (mm_a ma) (mm_s ms)) (hN : ms 17 = nI N) (hNM : N < M) (hM : hz = nI M) (hM9 : M ≤ 64) (hkd : ∀ i, i < M → ma 1 i = ha 5 i) (hta : ∀ i, i < M → ma 5 i = ha 6 i) (htb : ∀ i, i < M → ma 6 i = ha 7 i) (htc : ∀ i, i < M → ma 7 i = ha 8 i) (htm9 : ∀ i, i < M → mi_term (ha 6 i) = true ∧ mi_term (ha 7 i) = true ∧ mi_term (ha 8 i) = true) (hsh0 : ∀ c, c < 12 → ma 0 c = if ha 0 c = 0 then 45 else ha 0 c) (hshv : ∀ c, c < 12 → ha 0 c = 0 ∨ ha 0 c = 101 ∨ ha 0 c = 98 ∨ ha 0 c = 118) (hrad : ∀ c, c < 12 → ma 2 c = ha 1 c) (hli : ∀ c, c < 12 → ma 3 c = ha 2 c) (hoff : ∀ j, j < 12 → ma 10 j = ha 4 j) (hB : mg_B ma) (hT : ∀ q, q < 1152 → ma 13 q = am_b (T q)) (hm1 : ms 19 = -1 ∨ mg_req ma ms c s R) (hX : ma 11 0 = nI X) (hY : ma 11 1 = nI Y) (hZ : ma 11 2 = nI Z) (hX9 : X < 16) (hY9 : Y < 12) (hZ9 : Z < 10) (hO : ∃ O, ms 21 = nI O ∧ O < 4) (hb1 : mi_iw (q 17) (-50) 50 = true) (hb2 : mi_iw (q 18) (-50) 50 = true) (hb3 : mi_iw (q 19) (-50) 50 = true) (hfew : mc_told ha (q 16) (q 17) (q 18) (q 19) = true → ∀ e ∈ mx_es ha (mm_a ma) q, mg_few e) (hin : mc_told ha (q 16) (q 17) (q 18) (q 19) = true → (∀ e ∈ mx_es ha (mm_a ma) q, ml_ins e = true) → ∀ e ∈ mx_es ha (mm_a ma) q, ml_inn e) (hout : mc_told ha (q 16) (q 17) (q 18) (q 19) = true → (∀ e ∈ mx_es ha (mm_a ma) q, ∀ i, 1 ≤ i → i ≤ ml_N e → mg_at e i = true) → ∀ e ∈ mx_es ha (mm_a ma) q, ml_ins e = true) (htm : mc_told ha (q 16) (q 17) (q 18) (q 19) = true → (∀ e ∈ mx_es ha (mm_a ma) q, ml_inn e) → vf_n32 (mx_f q) ∧ ml_tok (mx_f q) (mx_es ha (mm_a ma) q) mt) (hW : mw_W (ha 5) M) (hP9 : mw_P (ha 5) (ha 9) M) (ka : ∀ (mb : Nat → Nat → Int32) (ms9 : Nat → Int32), ¬ (mx_al ha (mg_S ma) T (mm_a ma) q s R X Y Z) = 45 → (∀ i, i ≠ 12 → mb i = ma i) → (∀ j, j ≠ 26 → ms9 j = ms j) → K (some (.int (mx_al ha (mg_S ma) T (mm_a ma) q s R X Y Z))) (am_W ha hz a1 s1 t1 a2 s2 t2 al mb ms9 mt ol od)) (kf : ∀ (mb : Nat → Nat → Int32) (ms9 : Nat → Int32) (t9 : UInt32), (mx_al ha (mg_S ma) T (mm_a ma) q s R X Y Z) = 45 → mm_ok ma ms mb ms9 → mg_B mb → sx_E (ha 5) (mx_Q ha hz N (mm_a ma) q s R (mg_S ma) 8).toNatClampNeg (sx_go ha hz N (mm_a ma) q s R X Y Z (mg_S ma) mt) (mm_x mb (mm_up ms9) t9) → K (some (.int 45)) (am_W ha hz a1 s1 t1 a2 s2 t2 al mb ms9 t9 ol od)) (hk9 : ha 5 N = 101) : am_Run (d + 7) 133 [.ref 39] (am_W ha hz a1 s1 t1 a2 s2 t2 al ma ms mt ol od) K := by
  have e16 : q 16 = 101 := by rw [hq]; exact hk9
  have e17 : q 17 = mc_val (ma 9) (ha 6 N) := by rw [hq]; rfl
  have e18 : q 18 = mc_val (ma 9) (ha 7 N) := by rw [hq]; rfl
  have e19 : q 19 = mc_val (ma 9) (ha 8 N) := by rw [hq]; rfl
  have e10 : q 10 = ms 19 := by rw [hq]; rfl
  have e12 : q 12 = ms 20 := by rw [hq]; rfl
  have e13 : q 13 = ms 21 := by rw [hq]; rfl
  have e14 : q 14 = ms 22 := by rw [hq]; rfl
  have e15 : q 15 = ms 23 := by rw [hq]; rfl
  have e8 : q 8 = ms 17 := by rw [hq]; rfl
  have e9 : q 9 = ms 18 := by rw [hq]; rfl
  have n116 : ¬ q 16 = 116 := by rw [e16]; decide
  have n120 : ¬ q 16 = 120 := by rw [e16]; decide
  have hmv : ¬ mx_mv (q 16) := by rw [e16]; unfold mx_mv; decide
  refine ⟨rfl, fun P hm hP => ?_⟩
  show P 0 [some (.ref 39), none, none, none, none] [] _ 0 0
  refine s_aload_n hP t133_0 rfl ?_
  refine s_getfield hP t133_1 rfl rfl ?_
  refine s_aload_n hP t133_4 rfl ?_
  refine s_getfield hP t133_5 rfl rfl ?_
  refine s_caload hP t133_8 rfl (by rw [hN]; exact vp_in_nI (by omega) (by decide)) ?_
  rw [hN, nI_clamp (by omega), hkd N hNM, hk9]
  refine s_istore_n_1 hP t133_9 (by exact rfl) ?_
  refine s_aload_n hP t133_10 rfl ?_
  refine s_aload_n hP t133_11 rfl ?_
  refine s_getfield hP t133_12 rfl rfl ?_
  refine s_aload_n hP t133_15 rfl ?_
  refine s_getfield hP t133_16 rfl rfl ?_
  refine s_iaload hP t133_19 rfl (by rw [hN]; exact vp_in_nI (by omega) (by decide)) ?_
  rw [hN, nI_clamp (by omega), hta N hNM]
  refine s_invokevirtual (bc' := 0) (bs' := 0) hP t133_20 rfl rfl rfl rfl rfl ?_
  refine sp132 (htm9 N hNM).1 ?_
  refine s_istore_n_2 hP t133_23 (by exact rfl) ?_
  refine s_aload_n hP t133_24 rfl ?_
  refine s_aload_n hP t133_25 rfl ?_
  refine s_getfield hP t133_26 rfl rfl ?_
  refine s_aload_n hP t133_29 rfl ?_
  refine s_getfield hP t133_30 rfl rfl ?_
  refine s_iaload hP t133_33 rfl (by rw [hN]; exact vp_in_nI (by omega) (by decide)) ?_
  rw [hN, nI_clamp (by omega), htb N hNM]
  refine s_invokevirtual (bc' := 0) (bs' := 0) hP t133_34 rfl rfl rfl rfl rfl ?_
  refine sp132 (htm9 N hNM).2.1 ?_
  refine s_istore_n_3 hP t133_37 (by exact rfl) ?_
  refine s_aload_n hP t133_38 rfl ?_
  refine s_aload_n hP t133_39 rfl ?_
  refine s_getfield hP t133_40 rfl rfl ?_
  refine s_aload_n hP t133_43 rfl ?_
  refine s_getfield hP t133_44 rfl rfl ?_
  refine s_iaload hP t133_47 rfl (by rw [hN]; exact vp_in_nI (by omega) (by decide)) ?_
  rw [hN, nI_clamp (by omega), htc N hNM]
  refine s_invokevirtual (bc' := 0) (bs' := 0) hP t133_48 rfl rfl rfl rfl rfl ?_
  refine sp132 (htm9 N hNM).2.2 ?_
  refine s_istore_4 hP t133_51 (by exact rfl) ?_
  rw [← e17, ← e18, ← e19]
  refine s_iload_n hP t133_53 rfl ?_
  refine s_bipush (v := 103) hP t133_54 (by decide) ?_
  refine s_icmp_eq hP t133_56 (fun q56 => ?_) (fun q56 => ?_)
  · exact absurd q56 (by decide)
  · refine s_iload_n hP t133_59 rfl ?_
    refine s_bipush (v := 108) hP t133_60 (by decide) ?_
    refine s_icmp_eq hP t133_62 (fun q62 => ?_) (fun q62 => ?_)
    · exact absurd q62 (by decide)
    · refine s_iload_n hP t133_65 rfl ?_
      refine s_bipush (v := 100) hP t133_66 (by decide) ?_
      refine s_icmp_eq hP t133_68 (fun q68 => ?_) (fun q68 => ?_)
      · exact absurd q68 (by decide)
      · refine s_iload_n hP t133_71 rfl ?_
        refine s_bipush (v := 112) hP t133_72 (by decide) ?_
        refine s_icmp_ne hP t133_74 (fun q74 => ?_) (fun q74 => ?_)
        · refine s_iload_n hP t133_87 rfl ?_
          refine s_bipush (v := 116) hP t133_88 (by decide) ?_
          refine s_icmp_ne hP t133_90 (fun q90 => ?_) (fun q90 => ?_)
          · refine s_iload_n hP t133_100 rfl ?_
            refine s_bipush (v := 120) hP t133_101 (by decide) ?_
            refine s_icmp_ne hP t133_103 (fun q103 => ?_) (fun q103 => ?_)
            · refine s_iload_n hP t133_112 rfl ?_
              refine s_bipush (v := 114) hP t133_113 (by decide) ?_
              refine s_icmp_eq hP t133_115 (fun q115 => ?_) (fun q115 => ?_)
              · exact absurd q115 (by decide)
              · refine s_iload_n hP t133_118 rfl ?_
                refine s_bipush (v := 105) hP t133_119 (by decide) ?_
                refine s_icmp_ne hP t133_121 (fun q121 => ?_) (fun q121 => ?_)
                · refine s_iload_n hP t133_132 rfl ?_
                  refine s_bipush (v := 113) hP t133_133 (by decide) ?_
                  refine s_icmp_ne hP t133_135 (fun q135 => ?_) (fun q135 => ?_)
                  · refine s_iload_n hP t133_141 rfl ?_
                    refine s_bipush (v := 101) hP t133_142 (by decide) ?_
                    refine s_icmp_eq hP t133_144 (fun q144 => ?_) (fun q144 => ?_)
                    · refine s_aload_n hP t133_157 rfl ?_
                      refine s_invokevirtual (bc' := 0) (bs' := 0) hP t133_158 rfl rfl rfl rfl rfl ?_
                      obtain ⟨p, r, hst, hpt, hpN, hop, hr⟩ := mw_W_e hW hP9 hNM hk9
                      have hc : mw_cl (ha 5) p N := mw_cl_of hk9 hst
                      have hc2 : mw_cl (ma 1) p N := mw_cl_congr (fun i hi => (hkd i (by omega)).symm) hc
                      have hok : mw_ok (ma 1) N := mw_ok_cg (fun i hi => (hkd i (by omega)).symm) (mw_ok_le hW.1 (Nat.le_of_lt hNM))
                      have hlp : me_loop ha hz N = decide (ha 5 p = 114) := by
                        rw [me_loop, hpt, nI_clamp (by omega), hM]
                        obtain ⟨m, rfl⟩ : ∃ m, M = m + 1 := ⟨M - 1, by omega⟩
                        rw [nI_pred, mi_iw_at (by omega) (by omega)]
                        rfl
                      have hkp : ma 1 p = ha 5 p := hkd p (by omega)
                      refine sp131 (p := p) hN hc2 (by omega) (by rw [hkp]; exact hop) hok (fun h1 => ?_) (fun h1 h2 => ?_) (fun h1 h2 => ?_)
                      · refine s_bipush (v := 45) hP t133_161 (by decide) ?_
                        refine s_ireturn hP t133_163 rfl rfl ?_
                        have lf : ¬ me_loop ha hz N = true := by rw [hlp, ← hkp, h1]; decide
                        exact kf ma ms mt (mx_al_45 hmv n116 n120 (by rw [e16, told_101]; first | done | exact rfl)) ⟨fun i h4 h8 h9 h11 h12 h14 => rfl, fun j hj => rfl⟩ hB (sx_go_E (ha := ha) (hz := hz) (N := N) (a := mm_a ma) (q := q) (sh := s) (R := R) (X := X) (Y := Y) (Z := Z) (S := mg_S ma) (t := mt) hmv (fun c hc => rfl) (fun j hj => by rw [me_ar_2 (by rw [e16]; decide) (by rw [e16]; decide)]; rfl) (fun j hj => rfl) (fun p hp h5 => by rw [me_ar, if_neg (by rw [e16]; decide), if_neg (by rw [e16]; decide), if_neg (by rw [e16]; decide), if_pos e16, me_ca, if_neg lf]; rfl) (by rw [me_nx, if_neg (by rw [e16]; decide), if_pos e16, me_cn, if_neg (fun r => lf r.1), e8]; rfl) (by rw [e9]; rfl) (fun j hj hj2 hj3 => by
                        have : j = 10 ∨ j = 12 ∨ j = 13 ∨ j = 14 ∨ j = 15 := by omega
                        rcases this with rfl | rfl | rfl | rfl | rfl
                        · rw [me_st_no (by rw [e16]; decide) (by rw [e16]; decide) (by rw [e16]; decide) (by rw [e16]; decide) (by rw [e16]; decide)]; exact e10
                        · rw [me_st_no (by rw [e16]; decide) (by rw [e16]; decide) (by rw [e16]; decide) (by rw [e16]; decide) (by rw [e16]; decide)]; exact e12
                        · rw [me_st_no (by rw [e16]; decide) (by rw [e16]; decide) (by rw [e16]; decide) (by rw [e16]; decide) (by rw [e16]; decide)]; exact e13
                        · rw [me_st_no (by rw [e16]; decide) (by rw [e16]; decide) (by rw [e16]; decide) (by rw [e16]; decide) (by rw [e16]; decide)]; exact e14
                        · rw [me_st_no (by rw [e16]; decide) (by rw [e16]; decide) (by rw [e16]; decide) (by rw [e16]; decide) (by rw [e16]; decide)]; exact e15) (rfl) (fun r hr => rfl))
                      · refine s_bipush (v := 45) hP t133_161 (by decide) ?_
                        refine s_ireturn hP t133_163 rfl rfl ?_
                        have k14 : ha 5 p = 114 := by
                          rw [hkp] at h1
                          rw [mi_op, Bool.or_eq_true, decide_eq_true_eq, decide_eq_true_eq] at hop
                          exact hop.resolve_right h1
                        have lt : me_loop ha hz N = true := by rw [hlp, k14]; rfl
                        have nx : me_nx ha hz N (mx_a ha (mm_a ma) q s R (mg_S ma)) q = nI p + 1 := by
                          rw [me_nx, if_neg (by rw [e16]; decide), if_pos e16, me_cn, hpt, nI_clamp (by omega), if_pos ⟨lt, h2⟩]
                        exact kf (am_u2 ma 8 (upd (ma 8) p (ma 8 p - 1))) (am_u1 ms 17 (nI p)) mt (mx_al_45 hmv n116 n120 (by rw [e16, told_101]; first | done | exact rfl)) ⟨fun i h4 h8 h9 h11 h12 h14 => by simp only [am_u2, beq_no h8, cond_false], fun j hj => by
                        simp only [am_u1, beq_no (show j ≠ 17 by omega), cond_false]⟩ (mg_B_14 rfl hB) (sx_go_E (ha := ha) (hz := hz) (N := N) (a := mm_a ma) (q := q) (sh := s) (R := R) (X := X) (Y := Y) (Z := Z) (S := mg_S ma) (t := mt) hmv (fun c hc => rfl) (fun j hj => by rw [me_ar_2 (by rw [e16]; decide) (by rw [e16]; decide)]; rfl) (fun j hj => rfl) (fun r9 hp h5 => by rw [me_ar, if_neg (by rw [e16]; decide), if_neg (by rw [e16]; decide), if_neg (by rw [e16]; decide), if_pos e16, me_ca, if_pos lt, hpt, nI_clamp (by omega)]; rfl) (nx) (by rw [e9]; rfl) (fun j hj hj2 hj3 => by
                        have : j = 10 ∨ j = 12 ∨ j = 13 ∨ j = 14 ∨ j = 15 := by omega
                        rcases this with rfl | rfl | rfl | rfl | rfl
                        · rw [me_st_no (by rw [e16]; decide) (by rw [e16]; decide) (by rw [e16]; decide) (by rw [e16]; decide) (by rw [e16]; decide)]; exact e10
                        · rw [me_st_no (by rw [e16]; decide) (by rw [e16]; decide) (by rw [e16]; decide) (by rw [e16]; decide) (by rw [e16]; decide)]; exact e12
                        · rw [me_st_no (by rw [e16]; decide) (by rw [e16]; decide) (by rw [e16]; decide) (by rw [e16]; decide) (by rw [e16]; decide)]; exact e13
                        · rw [me_st_no (by rw [e16]; decide) (by rw [e16]; decide) (by rw [e16]; decide) (by rw [e16]; decide) (by rw [e16]; decide)]; exact e14
                        · rw [me_st_no (by rw [e16]; decide) (by rw [e16]; decide) (by rw [e16]; decide) (by rw [e16]; decide) (by rw [e16]; decide)]; exact e15) (rfl) (fun r hr => rfl))
                      · refine s_bipush (v := 45) hP t133_161 (by decide) ?_
                        refine s_ireturn hP t133_163 rfl rfl ?_
                        have k14 : ha 5 p = 114 := by
                          rw [hkp] at h1
                          rw [mi_op, Bool.or_eq_true, decide_eq_true_eq, decide_eq_true_eq] at hop
                          exact hop.resolve_right h1
                        have lt : me_loop ha hz N = true := by rw [hlp, k14]; rfl
                        have nx : me_nx ha hz N (mx_a ha (mm_a ma) q s R (mg_S ma)) q = q 8 + 1 := by
                          rw [me_nx, if_neg (by rw [e16]; decide), if_pos e16, me_cn, hpt, nI_clamp (by omega), if_neg (fun r => h2 r.2)]
                        exact kf (am_u2 ma 8 (upd (ma 8) p (ma 8 p - 1))) ms mt (mx_al_45 hmv n116 n120 (by rw [e16, told_101]; first | done | exact rfl)) ⟨fun i h4 h8 h9 h11 h12 h14 => by simp only [am_u2, beq_no h8, cond_false], fun j hj => rfl⟩ (mg_B_14 rfl hB) (sx_go_E (ha := ha) (hz := hz) (N := N) (a := mm_a ma) (q := q) (sh := s) (R := R) (X := X) (Y := Y) (Z := Z) (S := mg_S ma) (t := mt) hmv (fun c hc => rfl) (fun j hj => by rw [me_ar_2 (by rw [e16]; decide) (by rw [e16]; decide)]; rfl) (fun j hj => rfl) (fun r9 hp h5 => by rw [me_ar, if_neg (by rw [e16]; decide), if_neg (by rw [e16]; decide), if_neg (by rw [e16]; decide), if_pos e16, me_ca, if_pos lt, hpt, nI_clamp (by omega)]; rfl) (by rw [nx, e8]; rfl) (by rw [e9]; rfl) (fun j hj hj2 hj3 => by
                        have : j = 10 ∨ j = 12 ∨ j = 13 ∨ j = 14 ∨ j = 15 := by omega
                        rcases this with rfl | rfl | rfl | rfl | rfl
                        · rw [me_st_no (by rw [e16]; decide) (by rw [e16]; decide) (by rw [e16]; decide) (by rw [e16]; decide) (by rw [e16]; decide)]; exact e10
                        · rw [me_st_no (by rw [e16]; decide) (by rw [e16]; decide) (by rw [e16]; decide) (by rw [e16]; decide) (by rw [e16]; decide)]; exact e12
                        · rw [me_st_no (by rw [e16]; decide) (by rw [e16]; decide) (by rw [e16]; decide) (by rw [e16]; decide) (by rw [e16]; decide)]; exact e13
                        · rw [me_st_no (by rw [e16]; decide) (by rw [e16]; decide) (by rw [e16]; decide) (by rw [e16]; decide) (by rw [e16]; decide)]; exact e14
                        · rw [me_st_no (by rw [e16]; decide) (by rw [e16]; decide) (by rw [e16]; decide) (by rw [e16]; decide) (by rw [e16]; decide)]; exact e15) (rfl) (fun r hr => rfl))
                      
                    · exact absurd rfl q144
                  · exact absurd q135 (by decide)
                · exact absurd q121 (by decide)
            · exact absurd q103 (by decide)
          · exact absurd q90 (by decide)
        · exact absurd q74 (by decide)
theorem sp133 {d : Nat} {K : am_K} {ha : Nat → Nat → Int32} {hz : Int32} {a1 : Nat → Nat → Int32} {s1 : Nat → Int32} {t1 : UInt32} {a2 : Nat → Nat → Int32} {s2 : Nat → Int32} {t2 : UInt32} {al : Int32} {ma : Nat → Nat → Int32} {ms : Nat → Int32} {mt : UInt32} {ol : Nat → Int64} {od : Nat → UInt64} {T : Nat → Bool} {N M c s R X Y Z : Nat} {q : Nat → Int32} (hq : q = mx_q4 ha N (mm_a ma) (mm_s ms)) (hN : ms 17 = nI N) (hNM : N < M) (hM : hz = nI M) (hM9 : M ≤ 64) (hkd : ∀ i, i < M → ma 1 i = ha 5 i) (hta : ∀ i, i < M → ma 5 i = ha 6 i) (htb : ∀ i, i < M → ma 6 i = ha 7 i) (htc : ∀ i, i < M → ma 7 i = ha 8 i) (htm9 : ∀ i, i < M → mi_term (ha 6 i) = true ∧ mi_term (ha 7 i) = true ∧ mi_term (ha 8 i) = true) (hsh0 : ∀ c, c < 12 → ma 0 c = if ha 0 c = 0 then 45 else ha 0 c) (hshv : ∀ c, c < 12 → ha 0 c = 0 ∨ ha 0 c = 101 ∨ ha 0 c = 98 ∨ ha 0 c = 118) (hrad : ∀ c, c < 12 → ma 2 c = ha 1 c) (hli : ∀ c, c < 12 → ma 3 c = ha 2 c) (hoff : ∀ j, j < 12 → ma 10 j = ha 4 j) (hB : mg_B ma) (hT : ∀ q, q < 1152 → ma 13 q = am_b (T q)) (hm1 : ms 19 = -1 ∨ mg_req ma ms c s R) (hX : ma 11 0 = nI X) (hY : ma 11 1 = nI Y) (hZ : ma 11 2 = nI Z) (hX9 : X < 16) (hY9 : Y < 12) (hZ9 : Z < 10) (hO : ∃ O, ms 21 = nI O ∧ O < 4) (hb1 : mi_iw (q 17) (-50) 50 = true) (hb2 : mi_iw (q 18) (-50) 50 = true) (hb3 : mi_iw (q 19) (-50) 50 = true) (hfew : mc_told ha (q 16) (q 17) (q 18) (q 19) = true → ∀ e ∈ mx_es ha (mm_a ma) q, mg_few e) (hin : mc_told ha (q 16) (q 17) (q 18) (q 19) = true → (∀ e ∈ mx_es ha (mm_a ma) q, ml_ins e = true) → ∀ e ∈ mx_es ha (mm_a ma) q, ml_inn e) (hout : mc_told ha (q 16) (q 17) (q 18) (q 19) = true → (∀ e ∈ mx_es ha (mm_a ma) q, ∀ i, 1 ≤ i → i ≤ ml_N e → mg_at e i = true) → ∀ e ∈ mx_es ha (mm_a ma) q, ml_ins e = true) (htm : mc_told ha (q 16) (q 17) (q 18) (q 19) = true → (∀ e ∈ mx_es ha (mm_a ma) q, ml_inn e) → vf_n32 (mx_f q) ∧ ml_tok (mx_f q) (mx_es ha (mm_a ma) q) mt) (hW : mw_W (ha 5) M) (hP9 : mw_P (ha 5) (ha 9) M) (hk : mi_kind (ha 5 N) = true) (ka : ∀ (mb : Nat → Nat → Int32) (ms9 : Nat → Int32), ¬ (mx_al ha (mg_S ma) T (mm_a ma) q s R X Y Z) = 45 → (∀ i, i ≠ 12 → mb i = ma i) → (∀ j, j ≠ 26 → ms9 j = ms j) → K (some (.int (mx_al ha (mg_S ma) T (mm_a ma) q s R X Y Z))) (am_W ha hz a1 s1 t1 a2 s2 t2 al mb ms9 mt ol od)) (kf : ∀ (mb : Nat → Nat → Int32) (ms9 : Nat → Int32) (t9 : UInt32), (mx_al ha (mg_S ma) T (mm_a ma) q s R X Y Z) = 45 → mm_ok ma ms mb ms9 → mg_B mb → sx_E (ha 5) (mx_Q ha hz N (mm_a ma) q s R (mg_S ma) 8).toNatClampNeg (sx_go ha hz N (mm_a ma) q s R X Y Z (mg_S ma) mt) (mm_x mb (mm_up ms9) t9) → K (some (.int 45)) (am_W ha hz a1 s1 t1 a2 s2 t2 al mb ms9 t9 ol od)) : am_Run (d + 7) 133 [.ref 39] (am_W ha hz a1 s1 t1 a2 s2 t2 al ma ms mt ol od) K := by
  rcases mi_kind_cases hk with h | h | h | h | h | h | h | h | h | h | h | h | h | h | h
  · exact sp133_103 hq hN hNM hM hM9 hkd hta htb htc htm9 hsh0 hshv hrad hli hoff hB hT hm1 hX hY hZ hX9 hY9 hZ9 hO hb1 hb2 hb3 hfew hin hout htm hW hP9 ka kf h
  · exact sp133_108 hq hN hNM hM hM9 hkd hta htb htc htm9 hsh0 hshv hrad hli hoff hB hT hm1 hX hY hZ hX9 hY9 hZ9 hO hb1 hb2 hb3 hfew hin hout htm hW hP9 ka kf h
  · exact sp133_100 hq hN hNM hM hM9 hkd hta htb htc htm9 hsh0 hshv hrad hli hoff hB hT hm1 hX hY hZ hX9 hY9 hZ9 hO hb1 hb2 hb3 hfew hin hout htm hW hP9 ka kf h
  · exact sp133_112 hq hN hNM hM hM9 hkd hta htb htc htm9 hsh0 hshv hrad hli hoff hB hT hm1 hX hY hZ hX9 hY9 hZ9 hO hb1 hb2 hb3 hfew hin hout htm hW hP9 ka kf h
  · exact sp133_116 hq hN hNM hM hM9 hkd hta htb htc htm9 hsh0 hshv hrad hli hoff hB hT hm1 hX hY hZ hX9 hY9 hZ9 hO hb1 hb2 hb3 hfew hin hout htm hW hP9 ka kf h
  · exact sp133_115 hq hN hNM hM hM9 hkd hta htb htc htm9 hsh0 hshv hrad hli hoff hB hT hm1 hX hY hZ hX9 hY9 hZ9 hO hb1 hb2 hb3 hfew hin hout htm hW hP9 ka kf h
  · exact sp133_102 hq hN hNM hM hM9 hkd hta htb htc htm9 hsh0 hshv hrad hli hoff hB hT hm1 hX hY hZ hX9 hY9 hZ9 hO hb1 hb2 hb3 hfew hin hout htm hW hP9 ka kf h
  · exact sp133_109 hq hN hNM hM hM9 hkd hta htb htc htm9 hsh0 hshv hrad hli hoff hB hT hm1 hX hY hZ hX9 hY9 hZ9 hO hb1 hb2 hb3 hfew hin hout htm hW hP9 ka kf h
  · exact sp133_111 hq hN hNM hM hM9 hkd hta htb htc htm9 hsh0 hshv hrad hli hoff hB hT hm1 hX hY hZ hX9 hY9 hZ9 hO hb1 hb2 hb3 hfew hin hout htm hW hP9 ka kf h
  · exact sp133_118 hq hN hNM hM hM9 hkd hta htb htc htm9 hsh0 hshv hrad hli hoff hB hT hm1 hX hY hZ hX9 hY9 hZ9 hO hb1 hb2 hb3 hfew hin hout htm hW hP9 ka kf h
  · exact sp133_120 hq hN hNM hM hM9 hkd hta htb htc htm9 hsh0 hshv hrad hli hoff hB hT hm1 hX hY hZ hX9 hY9 hZ9 hO hb1 hb2 hb3 hfew hin hout htm hW hP9 ka kf h
  · exact sp133_114 hq hN hNM hM hM9 hkd hta htb htc htm9 hsh0 hshv hrad hli hoff hB hT hm1 hX hY hZ hX9 hY9 hZ9 hO hb1 hb2 hb3 hfew hin hout htm hW hP9 ka kf h
  · exact sp133_105 hq hN hNM hM hM9 hkd hta htb htc htm9 hsh0 hshv hrad hli hoff hB hT hm1 hX hY hZ hX9 hY9 hZ9 hO hb1 hb2 hb3 hfew hin hout htm hW hP9 ka kf h
  · exact sp133_101 hq hN hNM hM hM9 hkd hta htb htc htm9 hsh0 hshv hrad hli hoff hB hT hm1 hX hY hZ hX9 hY9 hZ9 hO hb1 hb2 hb3 hfew hin hout htm hW hP9 ka kf h
  · exact sp133_113 hq hN hNM hM hM9 hkd hta htb htc htm9 hsh0 hshv hrad hli hoff hB hT hm1 hX hY hZ hX9 hY9 hZ9 hO hb1 hb2 hb3 hfew hin hout htm hW hP9 ka kf h
