/-! A CONTROLLER'S BLOCK; ITERATION; THE REPLAY. (rows by gen/sp29.py) -/
set_option maxHeartbeats 2000000 in
theorem sp16g_1_a {d : Nat} {K : am_K} {ha : Nat → Nat → Int32} {hz : Int32} {a1 : Nat → Nat → Int32} {s1 : Nat → Int32} {t1 : UInt32} {a2 : Nat → Nat → Int32} {s2 : Nat → Int32} {t2 : UInt32} {al : Int32} {ma : Nat → Nat → Int32} {ms : Nat → Int32} {mt : UInt32} {ol : Nat → Int64} {od : Nat → UInt64} {N M : Nat} (hN : s1 8 = nI N) (hM : hz = nI M) (hM9 : M ≤ 64) (hNM : N < M) (hk : mi_kind (ha 5 N) = true) {S T : Nat → Bool} {sh R X Y Z : Nat} (hS : ∀ j, j < 72 → a1 0 j = mr_w (fun q => S (16 * j + q))) (hT : ∀ j, j < 72 → ha 3 j = mr_w (fun q => T (16 * j + q))) (hsl : s1 10 = -1 ∨ ∃ c, s1 10 = nI c ∧ c < 12 ∧ ha 0 c = nI sh ∧ ha 1 c = nI R) (hsh : sh = 101 ∨ sh = 98 ∨ sh = 118) (hR : R < 4) (hX : a1 3 0 = nI X) (hY : a1 3 1 = nI Y) (hZ : a1 3 2 = nI Z) (hX9 : X < 16) (hY9 : Y < 12) (hZ9 : Z < 10) (hO : ∃ O, s1 13 = nI O ∧ O < 4) (hb1 : mi_iw ((mx_q4 ha N a1 s1) 17) (-50) 50 = true) (hb2 : mi_iw ((mx_q4 ha N a1 s1) 18) (-50) 50 = true) (hb3 : mi_iw ((mx_q4 ha N a1 s1) 19) (-50) 50 = true) (hin : mc_told ha ((mx_q4 ha N a1 s1) 16) ((mx_q4 ha N a1 s1) 17) ((mx_q4 ha N a1 s1) 18) ((mx_q4 ha N a1 s1) 19) = true → (∀ e ∈ mx_es ha a1 (mx_q4 ha N a1 s1), ml_ins e = true) → ∀ e ∈ mx_es ha a1 (mx_q4 ha N a1 s1), ml_inn e) (htm : mc_told ha ((mx_q4 ha N a1 s1) 16) ((mx_q4 ha N a1 s1) 17) ((mx_q4 ha N a1 s1) 18) ((mx_q4 ha N a1 s1) 19) = true → (∀ e ∈ mx_es ha a1 (mx_q4 ha N a1 s1), ml_inn e) → vf_n32 (mx_f (mx_q4 ha N a1 s1)) ∧ ml_tok (mx_f (mx_q4 ha N a1 s1)) (mx_es ha a1 (mx_q4 ha N a1 s1)) t1) (ka : ∀ (b : Nat → Nat → Int32) (p : Nat → Int32), ¬ (mx_al ha S T a1 (mx_q4 ha N a1 s1) sh R X Y Z) = 45 → (∀ i, i ≤ 4 → b i = a1 i) → (∀ j, j ≤ 15 → p j = s1 j) → p 16 = ha 5 N → K (some (.int (mx_al ha S T a1 (mx_q4 ha N a1 s1) sh R X Y Z))) (am_W ha hz b p t1 a2 s2 t2 al ma ms mt ol od)) (kf : ∀ (b : Nat → Nat → Int32) (p : Nat → Int32), (mx_al ha S T a1 (mx_q4 ha N a1 s1) sh R X Y Z) = 45 → (∀ j, j < 72 → b 0 j = mr_w (fun q => mx_S ha a1 (mx_q4 ha N a1 s1) sh R S (16 * j + q))) → (∀ i, 1 ≤ i → i ≤ 4 → b i = mx_A ha hz N a1 (mx_q4 ha N a1 s1) sh R X Y Z S i) → (∀ j, j ≤ 19 → p j = mx_Q ha hz N a1 (mx_q4 ha N a1 s1) sh R S j) → K (some (.int 45)) (am_W ha hz b p (mx_t ha a1 (mx_q4 ha N a1 s1) t1) a2 s2 t2 al ma ms mt ol od)) (P : am_P) (hm : am_mono P) (hP : am_cl am_G am_ro am_ft am_df (am_Ex am_G am_ro am_ft am_df (d + 5)) 16 K P) : P 86 [some (.ref 15), some (.ref 9), none] [] (am_W ha hz a1 (mx_q4 ha N a1 s1) t1 a2 s2 t2 al ma ms mt ol od) 0 0 := by
  refine s_aload_n hP t16_86 rfl ?_
  refine s_invokevirtual (bc' := 0) (bs' := 0) hP t16_87 rfl rfl rfl rfl rfl ?_
  refine sp18_1 (s1 := (mx_q4 ha N a1 s1)) hk ?_
  refine s_zeq hP t16_90 (fun q90 => ?_) (fun q90 => ?_)
  · have q90 : mc_told ha ((mx_q4 ha N a1 s1) 16) ((mx_q4 ha N a1 s1) 17) ((mx_q4 ha N a1 s1) 18) ((mx_q4 ha N a1 s1) 19) = false := q90
    refine s_bipush (v := 110) hP t16_100 (by decide) ?_
    refine s_istore_n_2 hP t16_102 (by exact rfl) ?_
    refine s_iload_n hP t16_103 rfl ?_
    refine s_bipush (v := 45) hP t16_104 (by decide) ?_
    refine s_icmp_ne hP t16_106 (fun q106 => ?_) (fun q106 => ?_)
    · refine s_iload_n hP t16_122 rfl ?_
      refine s_bipush (v := 45) hP t16_123 (by decide) ?_
      refine s_icmp_ne hP t16_125 (fun q125 => ?_) (fun q125 => ?_)
      · refine s_iload_n hP t16_146 rfl ?_
        refine s_ireturn hP t16_147 rfl rfl ?_
        have eal : (mx_al ha S T a1 (mx_q4 ha N a1 s1) sh R X Y Z) = 110 := by rw [mx_al, if_pos q90]
        have k9 := ka a1 (mx_q4 ha N a1 s1) (by rw [eal]; exact q125) (fun i _ => rfl) (fun j hj => mx_q4_lo hj) rfl
        rw [eal] at k9
        exact k9
      · exact absurd q125 q106
    · exact absurd q106 (by decide)
  · have e90 : mc_told ha ((mx_q4 ha N a1 s1) 16) ((mx_q4 ha N a1 s1) 17) ((mx_q4 ha N a1 s1) 18) ((mx_q4 ha N a1 s1) 19) = true := q90
    refine s_aload_n hP t16_93 rfl ?_
    refine s_invokevirtual (bc' := 0) (bs' := 0) hP t16_94 rfl rfl rfl rfl rfl ?_
    refine sp19_1 (s1 := (mx_q4 ha N a1 s1)) (fun q => mc_told_116 q e90) ?_
    refine s_goto hP t16_97 ?_
    refine s_istore_n_2 hP t16_102 (by exact rfl) ?_
    refine s_iload_n hP t16_103 rfl ?_
    refine s_bipush (v := 45) hP t16_104 (by decide) ?_
    refine s_icmp_ne hP t16_106 (fun q106 => ?_) (fun q106 => ?_)
    · refine s_iload_n hP t16_122 rfl ?_
      refine s_bipush (v := 45) hP t16_123 (by decide) ?_
      refine s_icmp_ne hP t16_125 (fun q125 => ?_) (fun q125 => ?_)
      · refine s_iload_n hP t16_146 rfl ?_
        refine s_ireturn hP t16_147 rfl mc_tool_nar ?_
        have eal : (mx_al ha S T a1 (mx_q4 ha N a1 s1) sh R X Y Z) = mx_tool ha a1 (mx_q4 ha N a1 s1) := by rw [mx_al, if_neg (by rw [q90]; decide), if_pos (show ¬ mx_tool ha a1 (mx_q4 ha N a1 s1) = 45 from q106)]
        have k9 := ka a1 (mx_q4 ha N a1 s1) (by rw [eal]; exact q125) (fun i _ => rfl) (fun j hj => mx_q4_lo hj) rfl
        rw [eal] at k9
        exact k9
      · exact absurd q125 q106
    · exact sp16_1_m hN hM hM9 hNM hk hS hT hsl hsh hR hX hY hZ hX9 hY9 hZ9 hO hb1 hb2 hb3 (hin e90) (htm e90) ka kf P hm hP e90 q106
set_option maxHeartbeats 4000000 in
theorem sp16g_1 {d : Nat} {K : am_K} {ha : Nat → Nat → Int32} {hz : Int32} {a1 : Nat → Nat → Int32} {s1 : Nat → Int32} {t1 : UInt32} {a2 : Nat → Nat → Int32} {s2 : Nat → Int32} {t2 : UInt32} {al : Int32} {ma : Nat → Nat → Int32} {ms : Nat → Int32} {mt : UInt32} {ol : Nat → Int64} {od : Nat → UInt64} {N M : Nat} (hN : s1 8 = nI N) (hM : hz = nI M) (hM9 : M ≤ 64) (hNM : N < M) (hk : mi_kind (ha 5 N) = true) {S T : Nat → Bool} {sh R X Y Z : Nat} (hS : ∀ j, j < 72 → a1 0 j = mr_w (fun q => S (16 * j + q))) (hT : ∀ j, j < 72 → ha 3 j = mr_w (fun q => T (16 * j + q))) (hsl : s1 10 = -1 ∨ ∃ c, s1 10 = nI c ∧ c < 12 ∧ ha 0 c = nI sh ∧ ha 1 c = nI R) (hsh : sh = 101 ∨ sh = 98 ∨ sh = 118) (hR : R < 4) (hX : a1 3 0 = nI X) (hY : a1 3 1 = nI Y) (hZ : a1 3 2 = nI Z) (hX9 : X < 16) (hY9 : Y < 12) (hZ9 : Z < 10) (hO : ∃ O, s1 13 = nI O ∧ O < 4) (hb1 : mi_iw ((mx_q4 ha N a1 s1) 17) (-50) 50 = true) (hb2 : mi_iw ((mx_q4 ha N a1 s1) 18) (-50) 50 = true) (hb3 : mi_iw ((mx_q4 ha N a1 s1) 19) (-50) 50 = true) (hin : mc_told ha ((mx_q4 ha N a1 s1) 16) ((mx_q4 ha N a1 s1) 17) ((mx_q4 ha N a1 s1) 18) ((mx_q4 ha N a1 s1) 19) = true → (∀ e ∈ mx_es ha a1 (mx_q4 ha N a1 s1), ml_ins e = true) → ∀ e ∈ mx_es ha a1 (mx_q4 ha N a1 s1), ml_inn e) (htm : mc_told ha ((mx_q4 ha N a1 s1) 16) ((mx_q4 ha N a1 s1) 17) ((mx_q4 ha N a1 s1) 18) ((mx_q4 ha N a1 s1) 19) = true → (∀ e ∈ mx_es ha a1 (mx_q4 ha N a1 s1), ml_inn e) → vf_n32 (mx_f (mx_q4 ha N a1 s1)) ∧ ml_tok (mx_f (mx_q4 ha N a1 s1)) (mx_es ha a1 (mx_q4 ha N a1 s1)) t1) (ka : ∀ (b : Nat → Nat → Int32) (p : Nat → Int32), ¬ (mx_al ha S T a1 (mx_q4 ha N a1 s1) sh R X Y Z) = 45 → (∀ i, i ≤ 4 → b i = a1 i) → (∀ j, j ≤ 15 → p j = s1 j) → p 16 = ha 5 N → K (some (.int (mx_al ha S T a1 (mx_q4 ha N a1 s1) sh R X Y Z))) (am_W ha hz b p t1 a2 s2 t2 al ma ms mt ol od)) (kf : ∀ (b : Nat → Nat → Int32) (p : Nat → Int32), (mx_al ha S T a1 (mx_q4 ha N a1 s1) sh R X Y Z) = 45 → (∀ j, j < 72 → b 0 j = mr_w (fun q => mx_S ha a1 (mx_q4 ha N a1 s1) sh R S (16 * j + q))) → (∀ i, 1 ≤ i → i ≤ 4 → b i = mx_A ha hz N a1 (mx_q4 ha N a1 s1) sh R X Y Z S i) → (∀ j, j ≤ 19 → p j = mx_Q ha hz N a1 (mx_q4 ha N a1 s1) sh R S j) → K (some (.int 45)) (am_W ha hz b p (mx_t ha a1 (mx_q4 ha N a1 s1) t1) a2 s2 t2 al ma ms mt ol od)) : am_Run (d + 6) 16 [.ref 15] (am_W ha hz a1 s1 t1 a2 s2 t2 al ma ms mt ol od) K := by
  refine ⟨rfl, fun P hm hP => ?_⟩
  show P 0 [some (.ref 15), none, none] [] _ 0 0
  refine s_aload_n hP t16_0 rfl ?_
  refine s_getfield hP t16_1 rfl rfl ?_
  refine s_getfield hP t16_4 rfl rfl ?_
  refine s_astore_n_1 hP t16_7 (by exact rfl) ?_
  refine s_aload_n hP t16_8 rfl ?_
  refine s_aload_n hP t16_9 rfl ?_
  refine s_getfield hP t16_10 rfl rfl ?_
  refine s_invokevirtual (bc' := 0) (bs' := 0) hP t16_13 rfl rfl rfl rfl rfl ?_
  refine sp54 (sz := nI M) (by rw [← hM]; rfl) ?_
  rw [show mi_iw (s1 8) 0 (nI M - 1) = true by
    rw [hN]
    obtain ⟨M9, rfl⟩ : ∃ M9, M = M9 + 1 := ⟨M - 1, by omega⟩
    rw [nI_pred]
    exact mi_iw_at (by omega) (by omega)]
  refine s_zne hP t16_16 (fun q16 => ?_) (fun q16 => ?_)
  · exact sp16_1_h22 (s1 := s1) (N := N) (p := s1) hN (by omega) P hm hP (sp16g_1_a hN hM hM9 hNM hk hS hT hsl hsh hR hX hY hZ hX9 hY9 hZ9 hO hb1 hb2 hb3 hin htm ka kf P hm hP)
  · cases q16
theorem sp16s_1 {d : Nat} {K : am_K} {ha : Nat → Nat → Int32} {hz : Int32} {a1 : Nat → Nat → Int32} {s1 : Nat → Int32} {t1 : UInt32} {a2 : Nat → Nat → Int32} {s2 : Nat → Int32} {t2 : UInt32} {al : Int32} {ma : Nat → Nat → Int32} {ms : Nat → Int32} {mt : UInt32} {ol : Nat → Int64} {od : Nat → UInt64} {S T : Nat → Bool} {M : Nat} (hH : sx_H ha hz T M) (hV : sx_V ha T M (a1, s1, t1, S)) (hS : ∀ j, j < 72 → a1 0 j = mr_w (fun q => S (16 * j + q))) (hN : sx_N (a1, s1, t1, S) < M) (hW : mw_W (ha 5) M) (ka : ∀ (b : Nat → Nat → Int32) (p : Nat → Int32), ¬ sx_al ha T (a1, s1, t1, S) = 45 → (∀ i, i ≤ 4 → b i = a1 i) → (∀ j, j ≤ 15 → p j = s1 j) → p 16 = ha 5 (sx_N (a1, s1, t1, S)) → K (some (.int (sx_al ha T (a1, s1, t1, S)))) (am_W ha hz b p t1 a2 s2 t2 al ma ms mt ol od)) (kf : ∀ (b : Nat → Nat → Int32) (p : Nat → Int32) (t9 : UInt32) (S9 : Nat → Bool), sx_al ha T (a1, s1, t1, S) = 45 → (∀ j, j < 72 → b 0 j = mr_w (fun q => S9 (16 * j + q))) → sx_E (ha 5) (sx_N (sx_nx ha hz (a1, s1, t1, S))) (sx_nx ha hz (a1, s1, t1, S)) (b, p, t9, S9) → p 16 = ha 5 (sx_N (a1, s1, t1, S)) → K (some (.int 45)) (am_W ha hz b p t9 a2 s2 t2 al ma ms mt ol od)) : am_Run (d + 6) 16 [.ref 15] (am_W ha hz a1 s1 t1 a2 s2 t2 al ma ms mt ol od) K := by
  obtain ⟨p1, p2, p3, p4, p5, p6, p7, p8, p9, p10, b1, b2, b3⟩ := sx_pre hH hV hN
  refine sp16g_1 (N := sx_N (a1, s1, t1, S)) (M := M) (S := S) (T := T) p1 hH.1 hH.2.1 hN (hH.2.2.1 _ hN).1 hS hH.2.2.2.2.2.2.2 p2 p3 p4 p5 p6 p7 p8 p9 p10 hV.2.2.2.1 b1 b2 b3 (fun t h e he => ((sx_legs hH hV hN t).2.1 h e he).1) (fun t h => ?_) (fun b p h1 h2 h3 h4 => ka b p h1 h2 h3 h4) (fun b p h1 h2 h3 h4 => kf b p _ _ h1 h2 ⟨fun c hc => ?_, fun j hj => ?_, fun j hj => ?_, fun r hr h5 => ?_, fun j hj hj2 hj3 => ?_, rfl, fun r hr => rfl⟩ ?_)
  · have g := sx_legs hH hV hN t
    have hi : ∀ e ∈ mx_es ha (show sx_X from (a1, s1, t1, S)).a (sx_q ha (a1, s1, t1, S)), ml_ins e = true := g.2.2.1 (fun e he => mg_at_inn (h e he))
    obtain ⟨f1, f2, -⟩ := sx_time (hz := hz) hV (g.2.1 hi)
    exact ⟨f1, f2⟩
  · exact (congrFun (h3 1 (by omega) (by omega)) c).symm
  · exact (congrFun (h3 2 (by omega) (by omega)) j).symm
  · exact (congrFun (h3 3 (by omega) (by omega)) j).symm
  · exact (congrFun (h3 4 (by omega) (by omega)) r).symm
  · exact (h4 j (by omega)).symm
  · rw [h4 16 (by omega), mx_Q_lo (by decide) (by decide)]
    simp only [me_st]
    repeat' split
    all_goals rfl
set_option maxHeartbeats 2000000 in
theorem sp16g_2_a {d : Nat} {K : am_K} {ha : Nat → Nat → Int32} {hz : Int32} {a1 : Nat → Nat → Int32} {s1 : Nat → Int32} {t1 : UInt32} {a2 : Nat → Nat → Int32} {s2 : Nat → Int32} {t2 : UInt32} {al : Int32} {ma : Nat → Nat → Int32} {ms : Nat → Int32} {mt : UInt32} {ol : Nat → Int64} {od : Nat → UInt64} {N M : Nat} (hN : s2 8 = nI N) (hM : hz = nI M) (hM9 : M ≤ 64) (hNM : N < M) (hk : mi_kind (ha 5 N) = true) {S T : Nat → Bool} {sh R X Y Z : Nat} (hS : ∀ j, j < 72 → a2 0 j = mr_w (fun q => S (16 * j + q))) (hT : ∀ j, j < 72 → ha 3 j = mr_w (fun q => T (16 * j + q))) (hsl : s2 10 = -1 ∨ ∃ c, s2 10 = nI c ∧ c < 12 ∧ ha 0 c = nI sh ∧ ha 1 c = nI R) (hsh : sh = 101 ∨ sh = 98 ∨ sh = 118) (hR : R < 4) (hX : a2 3 0 = nI X) (hY : a2 3 1 = nI Y) (hZ : a2 3 2 = nI Z) (hX9 : X < 16) (hY9 : Y < 12) (hZ9 : Z < 10) (hO : ∃ O, s2 13 = nI O ∧ O < 4) (hb1 : mi_iw ((mx_q4 ha N a2 s2) 17) (-50) 50 = true) (hb2 : mi_iw ((mx_q4 ha N a2 s2) 18) (-50) 50 = true) (hb3 : mi_iw ((mx_q4 ha N a2 s2) 19) (-50) 50 = true) (hin : mc_told ha ((mx_q4 ha N a2 s2) 16) ((mx_q4 ha N a2 s2) 17) ((mx_q4 ha N a2 s2) 18) ((mx_q4 ha N a2 s2) 19) = true → (∀ e ∈ mx_es ha a2 (mx_q4 ha N a2 s2), ml_ins e = true) → ∀ e ∈ mx_es ha a2 (mx_q4 ha N a2 s2), ml_inn e) (htm : mc_told ha ((mx_q4 ha N a2 s2) 16) ((mx_q4 ha N a2 s2) 17) ((mx_q4 ha N a2 s2) 18) ((mx_q4 ha N a2 s2) 19) = true → (∀ e ∈ mx_es ha a2 (mx_q4 ha N a2 s2), ml_inn e) → vf_n32 (mx_f (mx_q4 ha N a2 s2)) ∧ ml_tok (mx_f (mx_q4 ha N a2 s2)) (mx_es ha a2 (mx_q4 ha N a2 s2)) t2) (ka : ∀ (b : Nat → Nat → Int32) (p : Nat → Int32), ¬ (mx_al ha S T a2 (mx_q4 ha N a2 s2) sh R X Y Z) = 45 → (∀ i, i ≤ 4 → b i = a2 i) → (∀ j, j ≤ 15 → p j = s2 j) → p 16 = ha 5 N → K (some (.int (mx_al ha S T a2 (mx_q4 ha N a2 s2) sh R X Y Z))) (am_W ha hz a1 s1 t1 b p t2 al ma ms mt ol od)) (kf : ∀ (b : Nat → Nat → Int32) (p : Nat → Int32), (mx_al ha S T a2 (mx_q4 ha N a2 s2) sh R X Y Z) = 45 → (∀ j, j < 72 → b 0 j = mr_w (fun q => mx_S ha a2 (mx_q4 ha N a2 s2) sh R S (16 * j + q))) → (∀ i, 1 ≤ i → i ≤ 4 → b i = mx_A ha hz N a2 (mx_q4 ha N a2 s2) sh R X Y Z S i) → (∀ j, j ≤ 19 → p j = mx_Q ha hz N a2 (mx_q4 ha N a2 s2) sh R S j) → K (some (.int 45)) (am_W ha hz a1 s1 t1 b p (mx_t ha a2 (mx_q4 ha N a2 s2) t2) al ma ms mt ol od)) (P : am_P) (hm : am_mono P) (hP : am_cl am_G am_ro am_ft am_df (am_Ex am_G am_ro am_ft am_df (d + 5)) 16 K P) : P 86 [some (.ref 27), some (.ref 9), none] [] (am_W ha hz a1 s1 t1 a2 (mx_q4 ha N a2 s2) t2 al ma ms mt ol od) 0 0 := by
  refine s_aload_n hP t16_86 rfl ?_
  refine s_invokevirtual (bc' := 0) (bs' := 0) hP t16_87 rfl rfl rfl rfl rfl ?_
  refine sp18_2 (s2 := (mx_q4 ha N a2 s2)) hk ?_
  refine s_zeq hP t16_90 (fun q90 => ?_) (fun q90 => ?_)
  · have q90 : mc_told ha ((mx_q4 ha N a2 s2) 16) ((mx_q4 ha N a2 s2) 17) ((mx_q4 ha N a2 s2) 18) ((mx_q4 ha N a2 s2) 19) = false := q90
    refine s_bipush (v := 110) hP t16_100 (by decide) ?_
    refine s_istore_n_2 hP t16_102 (by exact rfl) ?_
    refine s_iload_n hP t16_103 rfl ?_
    refine s_bipush (v := 45) hP t16_104 (by decide) ?_
    refine s_icmp_ne hP t16_106 (fun q106 => ?_) (fun q106 => ?_)
    · refine s_iload_n hP t16_122 rfl ?_
      refine s_bipush (v := 45) hP t16_123 (by decide) ?_
      refine s_icmp_ne hP t16_125 (fun q125 => ?_) (fun q125 => ?_)
      · refine s_iload_n hP t16_146 rfl ?_
        refine s_ireturn hP t16_147 rfl rfl ?_
        have eal : (mx_al ha S T a2 (mx_q4 ha N a2 s2) sh R X Y Z) = 110 := by rw [mx_al, if_pos q90]
        have k9 := ka a2 (mx_q4 ha N a2 s2) (by rw [eal]; exact q125) (fun i _ => rfl) (fun j hj => mx_q4_lo hj) rfl
        rw [eal] at k9
        exact k9
      · exact absurd q125 q106
    · exact absurd q106 (by decide)
  · have e90 : mc_told ha ((mx_q4 ha N a2 s2) 16) ((mx_q4 ha N a2 s2) 17) ((mx_q4 ha N a2 s2) 18) ((mx_q4 ha N a2 s2) 19) = true := q90
    refine s_aload_n hP t16_93 rfl ?_
    refine s_invokevirtual (bc' := 0) (bs' := 0) hP t16_94 rfl rfl rfl rfl rfl ?_
    refine sp19_2 (s2 := (mx_q4 ha N a2 s2)) (fun q => mc_told_116 q e90) ?_
    refine s_goto hP t16_97 ?_
    refine s_istore_n_2 hP t16_102 (by exact rfl) ?_
    refine s_iload_n hP t16_103 rfl ?_
    refine s_bipush (v := 45) hP t16_104 (by decide) ?_
    refine s_icmp_ne hP t16_106 (fun q106 => ?_) (fun q106 => ?_)
    · refine s_iload_n hP t16_122 rfl ?_
      refine s_bipush (v := 45) hP t16_123 (by decide) ?_
      refine s_icmp_ne hP t16_125 (fun q125 => ?_) (fun q125 => ?_)
      · refine s_iload_n hP t16_146 rfl ?_
        refine s_ireturn hP t16_147 rfl mc_tool_nar ?_
        have eal : (mx_al ha S T a2 (mx_q4 ha N a2 s2) sh R X Y Z) = mx_tool ha a2 (mx_q4 ha N a2 s2) := by rw [mx_al, if_neg (by rw [q90]; decide), if_pos (show ¬ mx_tool ha a2 (mx_q4 ha N a2 s2) = 45 from q106)]
        have k9 := ka a2 (mx_q4 ha N a2 s2) (by rw [eal]; exact q125) (fun i _ => rfl) (fun j hj => mx_q4_lo hj) rfl
        rw [eal] at k9
        exact k9
      · exact absurd q125 q106
    · exact sp16_2_m hN hM hM9 hNM hk hS hT hsl hsh hR hX hY hZ hX9 hY9 hZ9 hO hb1 hb2 hb3 (hin e90) (htm e90) ka kf P hm hP e90 q106
set_option maxHeartbeats 4000000 in
theorem sp16g_2 {d : Nat} {K : am_K} {ha : Nat → Nat → Int32} {hz : Int32} {a1 : Nat → Nat → Int32} {s1 : Nat → Int32} {t1 : UInt32} {a2 : Nat → Nat → Int32} {s2 : Nat → Int32} {t2 : UInt32} {al : Int32} {ma : Nat → Nat → Int32} {ms : Nat → Int32} {mt : UInt32} {ol : Nat → Int64} {od : Nat → UInt64} {N M : Nat} (hN : s2 8 = nI N) (hM : hz = nI M) (hM9 : M ≤ 64) (hNM : N < M) (hk : mi_kind (ha 5 N) = true) {S T : Nat → Bool} {sh R X Y Z : Nat} (hS : ∀ j, j < 72 → a2 0 j = mr_w (fun q => S (16 * j + q))) (hT : ∀ j, j < 72 → ha 3 j = mr_w (fun q => T (16 * j + q))) (hsl : s2 10 = -1 ∨ ∃ c, s2 10 = nI c ∧ c < 12 ∧ ha 0 c = nI sh ∧ ha 1 c = nI R) (hsh : sh = 101 ∨ sh = 98 ∨ sh = 118) (hR : R < 4) (hX : a2 3 0 = nI X) (hY : a2 3 1 = nI Y) (hZ : a2 3 2 = nI Z) (hX9 : X < 16) (hY9 : Y < 12) (hZ9 : Z < 10) (hO : ∃ O, s2 13 = nI O ∧ O < 4) (hb1 : mi_iw ((mx_q4 ha N a2 s2) 17) (-50) 50 = true) (hb2 : mi_iw ((mx_q4 ha N a2 s2) 18) (-50) 50 = true) (hb3 : mi_iw ((mx_q4 ha N a2 s2) 19) (-50) 50 = true) (hin : mc_told ha ((mx_q4 ha N a2 s2) 16) ((mx_q4 ha N a2 s2) 17) ((mx_q4 ha N a2 s2) 18) ((mx_q4 ha N a2 s2) 19) = true → (∀ e ∈ mx_es ha a2 (mx_q4 ha N a2 s2), ml_ins e = true) → ∀ e ∈ mx_es ha a2 (mx_q4 ha N a2 s2), ml_inn e) (htm : mc_told ha ((mx_q4 ha N a2 s2) 16) ((mx_q4 ha N a2 s2) 17) ((mx_q4 ha N a2 s2) 18) ((mx_q4 ha N a2 s2) 19) = true → (∀ e ∈ mx_es ha a2 (mx_q4 ha N a2 s2), ml_inn e) → vf_n32 (mx_f (mx_q4 ha N a2 s2)) ∧ ml_tok (mx_f (mx_q4 ha N a2 s2)) (mx_es ha a2 (mx_q4 ha N a2 s2)) t2) (ka : ∀ (b : Nat → Nat → Int32) (p : Nat → Int32), ¬ (mx_al ha S T a2 (mx_q4 ha N a2 s2) sh R X Y Z) = 45 → (∀ i, i ≤ 4 → b i = a2 i) → (∀ j, j ≤ 15 → p j = s2 j) → p 16 = ha 5 N → K (some (.int (mx_al ha S T a2 (mx_q4 ha N a2 s2) sh R X Y Z))) (am_W ha hz a1 s1 t1 b p t2 al ma ms mt ol od)) (kf : ∀ (b : Nat → Nat → Int32) (p : Nat → Int32), (mx_al ha S T a2 (mx_q4 ha N a2 s2) sh R X Y Z) = 45 → (∀ j, j < 72 → b 0 j = mr_w (fun q => mx_S ha a2 (mx_q4 ha N a2 s2) sh R S (16 * j + q))) → (∀ i, 1 ≤ i → i ≤ 4 → b i = mx_A ha hz N a2 (mx_q4 ha N a2 s2) sh R X Y Z S i) → (∀ j, j ≤ 19 → p j = mx_Q ha hz N a2 (mx_q4 ha N a2 s2) sh R S j) → K (some (.int 45)) (am_W ha hz a1 s1 t1 b p (mx_t ha a2 (mx_q4 ha N a2 s2) t2) al ma ms mt ol od)) : am_Run (d + 6) 16 [.ref 27] (am_W ha hz a1 s1 t1 a2 s2 t2 al ma ms mt ol od) K := by
  refine ⟨rfl, fun P hm hP => ?_⟩
  show P 0 [some (.ref 27), none, none] [] _ 0 0
  refine s_aload_n hP t16_0 rfl ?_
  refine s_getfield hP t16_1 rfl rfl ?_
  refine s_getfield hP t16_4 rfl rfl ?_
  refine s_astore_n_1 hP t16_7 (by exact rfl) ?_
  refine s_aload_n hP t16_8 rfl ?_
  refine s_aload_n hP t16_9 rfl ?_
  refine s_getfield hP t16_10 rfl rfl ?_
  refine s_invokevirtual (bc' := 0) (bs' := 0) hP t16_13 rfl rfl rfl rfl rfl ?_
  refine sp54 (sz := nI M) (by rw [← hM]; rfl) ?_
  rw [show mi_iw (s2 8) 0 (nI M - 1) = true by
    rw [hN]
    obtain ⟨M9, rfl⟩ : ∃ M9, M = M9 + 1 := ⟨M - 1, by omega⟩
    rw [nI_pred]
    exact mi_iw_at (by omega) (by omega)]
  refine s_zne hP t16_16 (fun q16 => ?_) (fun q16 => ?_)
  · exact sp16_2_h22 (s2 := s2) (N := N) (p := s2) hN (by omega) P hm hP (sp16g_2_a hN hM hM9 hNM hk hS hT hsl hsh hR hX hY hZ hX9 hY9 hZ9 hO hb1 hb2 hb3 hin htm ka kf P hm hP)
  · cases q16
theorem sp16s_2 {d : Nat} {K : am_K} {ha : Nat → Nat → Int32} {hz : Int32} {a1 : Nat → Nat → Int32} {s1 : Nat → Int32} {t1 : UInt32} {a2 : Nat → Nat → Int32} {s2 : Nat → Int32} {t2 : UInt32} {al : Int32} {ma : Nat → Nat → Int32} {ms : Nat → Int32} {mt : UInt32} {ol : Nat → Int64} {od : Nat → UInt64} {S T : Nat → Bool} {M : Nat} (hH : sx_H ha hz T M) (hV : sx_V ha T M (a2, s2, t2, S)) (hS : ∀ j, j < 72 → a2 0 j = mr_w (fun q => S (16 * j + q))) (hN : sx_N (a2, s2, t2, S) < M) (hW : mw_W (ha 5) M) (ka : ∀ (b : Nat → Nat → Int32) (p : Nat → Int32), ¬ sx_al ha T (a2, s2, t2, S) = 45 → (∀ i, i ≤ 4 → b i = a2 i) → (∀ j, j ≤ 15 → p j = s2 j) → p 16 = ha 5 (sx_N (a2, s2, t2, S)) → K (some (.int (sx_al ha T (a2, s2, t2, S)))) (am_W ha hz a1 s1 t1 b p t2 al ma ms mt ol od)) (kf : ∀ (b : Nat → Nat → Int32) (p : Nat → Int32) (t9 : UInt32) (S9 : Nat → Bool), sx_al ha T (a2, s2, t2, S) = 45 → (∀ j, j < 72 → b 0 j = mr_w (fun q => S9 (16 * j + q))) → sx_E (ha 5) (sx_N (sx_nx ha hz (a2, s2, t2, S))) (sx_nx ha hz (a2, s2, t2, S)) (b, p, t9, S9) → p 16 = ha 5 (sx_N (a2, s2, t2, S)) → K (some (.int 45)) (am_W ha hz a1 s1 t1 b p t9 al ma ms mt ol od)) : am_Run (d + 6) 16 [.ref 27] (am_W ha hz a1 s1 t1 a2 s2 t2 al ma ms mt ol od) K := by
  obtain ⟨p1, p2, p3, p4, p5, p6, p7, p8, p9, p10, b1, b2, b3⟩ := sx_pre hH hV hN
  refine sp16g_2 (N := sx_N (a2, s2, t2, S)) (M := M) (S := S) (T := T) p1 hH.1 hH.2.1 hN (hH.2.2.1 _ hN).1 hS hH.2.2.2.2.2.2.2 p2 p3 p4 p5 p6 p7 p8 p9 p10 hV.2.2.2.1 b1 b2 b3 (fun t h e he => ((sx_legs hH hV hN t).2.1 h e he).1) (fun t h => ?_) (fun b p h1 h2 h3 h4 => ka b p h1 h2 h3 h4) (fun b p h1 h2 h3 h4 => kf b p _ _ h1 h2 ⟨fun c hc => ?_, fun j hj => ?_, fun j hj => ?_, fun r hr h5 => ?_, fun j hj hj2 hj3 => ?_, rfl, fun r hr => rfl⟩ ?_)
  · have g := sx_legs hH hV hN t
    have hi : ∀ e ∈ mx_es ha (show sx_X from (a2, s2, t2, S)).a (sx_q ha (a2, s2, t2, S)), ml_ins e = true := g.2.2.1 (fun e he => mg_at_inn (h e he))
    obtain ⟨f1, f2, -⟩ := sx_time (hz := hz) hV (g.2.1 hi)
    exact ⟨f1, f2⟩
  · exact (congrFun (h3 1 (by omega) (by omega)) c).symm
  · exact (congrFun (h3 2 (by omega) (by omega)) j).symm
  · exact (congrFun (h3 3 (by omega) (by omega)) j).symm
  · exact (congrFun (h3 4 (by omega) (by omega)) r).symm
  · exact (h4 j (by omega)).symm
  · rw [h4 16 (by omega), mx_Q_lo (by decide) (by decide)]
    simp only [me_st]
    repeat' split
    all_goals rfl
noncomputable def sx_it (ha : Nat → Nat → Int32) (hz : Int32) : Nat → sx_X → sx_X
  | 0, x => x
  | n + 1, x => sx_nx ha hz (sx_it ha hz n x)
def sx_0 : sx_X := (fun i j => if i = 3 ∧ j = 2 then 9 else 0, fun j => if j = 10 then -1 else if j = 12 then 10 else 0, FP.fconst0, fun _ => true)
theorem mr_cnt_all : ∀ n, mr_cnt n (fun _ => true) = n
  | 0 => rfl
  | n + 1 => by
    have := mr_cnt_all n
    simp only [mr_cnt, this]
    rfl
theorem mi_sum_0 {f : Nat → Int32} : ∀ n, (∀ i, i < n → f i = 0) → mi_sum n f = 0
  | 0, _ => rfl
  | n + 1, h => by rw [mi_sum, mi_sum_0 n (fun i hi => h i (by omega)), h n (by omega)]; rfl
theorem sx_V_0 {ha : Nat → Nat → Int32} {T : Nat → Bool} {M : Nat} : sx_V ha T M sx_0 := by
  refine ⟨⟨0, rfl, Nat.zero_le _⟩, Or.inl rfl, ⟨10, rfl, by decide, by decide⟩, ⟨0, rfl, by decide⟩, fun j hj => ?_, ⟨0, 0, 9, by decide, by decide, by decide, rfl, rfl, rfl⟩, Or.inl rfl, fun _ _ _ => rfl, ?_⟩
  · show mi_iw (if 2 = 3 ∧ j = 2 then 9 else 0) (-50) 50 = true
    rw [if_neg (by omega)]
    decide
  · have e1 : mi_sum 12 (sx_0.a 1) = 0 := mi_sum_0 12 (fun i hi => by
      show (if 1 = 3 ∧ i = 2 then (9 : Int32) else 0) = 0
      rw [if_neg (by omega)])
    have e2 : mr_cnt 1152 sx_0.S = 1152 := mr_cnt_all 1152
    rw [e1, e2, Nat.sub_self]
    rfl
/-- so many blocks, carried out one behind the other, none of which raised an alarm -/
def sx_run (ha : Nat → Nat → Int32) (hz : Int32) (T : Nat → Bool) (M D : Nat) : Prop := ∀ k, k < D → sx_N (sx_it ha hz k sx_0) < M ∧ sx_al ha T (sx_it ha hz k sx_0) = 45
theorem sx_it_V {ha : Nat → Nat → Int32} {hz : Int32} {T : Nat → Bool} {M : Nat} (hH : sx_H ha hz T M) (hW : mw_W (ha 5) M) : ∀ D, sx_run ha hz T M D → sx_V ha T M (sx_it ha hz D sx_0)
  | 0, _ => sx_V_0
  | D + 1, h => sx_V_nx hH (sx_it_V hH hW D (fun k hk => h k (by omega))) (h D (by omega)).1 hW (h D (by omega)).2
/-- one more block on both sides -/
theorem sx_more {ha : Nat → Nat → Int32} {hz : Int32} {T : Nat → Bool} {M D : Nat} {y : sx_X} (hH : sx_H ha hz T M) (hW : mw_W (ha 5) M) (hr : sx_run ha hz T M D) (hN : sx_N (sx_it ha hz D sx_0) < M) (hE : sx_E (ha 5) (sx_N (sx_it ha hz D sx_0)) (sx_it ha hz D sx_0) y) : sx_N y < M ∧ sx_V ha T M y ∧ sx_al ha T y = sx_al ha T (sx_it ha hz D sx_0) ∧ (sx_al ha T (sx_it ha hz D sx_0) = 45 → sx_run ha hz T M (D + 1) ∧ ∀ z, sx_E (ha 5) (sx_N (sx_nx ha hz y)) (sx_nx ha hz y) z → sx_E (ha 5) (sx_N (sx_it ha hz (D + 1) sx_0)) (sx_it ha hz (D + 1) sx_0) z) := by
  have hV := sx_it_V hH hW D hr
  obtain ⟨c1, c2⟩ := sx_cong hH hV hN hW hE
  refine ⟨by rw [sx_N_E hE]; exact hN, sx_V_E hE hV, c1.symm, fun h45 => ⟨fun k hk => ?_, fun z hz9 => ?_⟩⟩
  · by_cases h : k < D
    · exact hr k h
    · obtain rfl : k = D := by omega
      exact ⟨hN, h45⟩
  · have g := c2 h45
    have hn := sx_N_E g
    obtain ⟨e1, e2, e3, e4, e5, e6, e7⟩ := g
    obtain ⟨f1, f2, f3, f4, f5, f6, f7⟩ := hz9
    rw [hn] at f4
    exact ⟨fun c hc => (e1 c hc).trans (f1 c hc), fun j hj => (e2 j hj).trans (f2 j hj), fun j hj => (e3 j hj).trans (f3 j hj), fun p hp h5 => (e4 p hp h5).trans (f4 p hp h5), fun j h1 h2 h3 => (e5 j h1 h2 h3).trans (f5 j h1 h2 h3), e6.trans f6, fun q hq => (e7 q hq).trans (f7 q hq)⟩
theorem mr_w_all : mr_w (fun _ => true) = 65535 := by decide +kernel
theorem sx_begin {ha : Nat → Nat → Int32} {a : Nat → Nat → Int32} {s : Nat → Int32} {g u v : Nat → Int32} (hu : ∀ j, j < 12 → u j = 0) (hv : ∀ j, j < 8 → v j = 0) : sx_E (ha 5) (sx_N sx_0) sx_0 (mc_a0 a g u v, mc_s0 s, FP.fconst0, fun _ => true) := by
  refine ⟨fun c hc => ?_, fun j hj => ?_, fun j hj => ?_, fun p hp h5 => ?_, fun j h1 h2 h3 => ?_, rfl, fun _ _ => rfl⟩
  · show (if 1 = 3 ∧ c = 2 then (9 : Int32) else 0) = u c
    rw [if_neg (by omega), hu c hc]
  · show (if 2 = 3 ∧ j = 2 then (9 : Int32) else 0) = v j
    rw [if_neg (by omega), hv j hj]
  · have : j = 0 ∨ j = 1 ∨ j = 2 := by omega
    rcases this with rfl | rfl | rfl <;> rfl
  · exact absurd hp List.not_mem_nil
  · have : j = 8 ∨ j = 9 ∨ j = 10 ∨ j = 12 ∨ j = 13 ∨ j = 14 ∨ j = 15 := by omega
    rcases this with rfl | rfl | rfl | rfl | rfl | rfl | rfl <;> rfl
set_option maxHeartbeats 4000000 in
theorem sp15_2 {d : Nat} {K : am_K} {ha : Nat → Nat → Int32} {hz : Int32} {a1 : Nat → Nat → Int32} {s1 : Nat → Int32} {t1 : UInt32} {a2 : Nat → Nat → Int32} {s2 : Nat → Int32} {t2 : UInt32} {al : Int32} {ma : Nat → Nat → Int32} {ms : Nat → Int32} {mt : UInt32} {ol : Nat → Int64} {od : Nat → UInt64} {T : Nat → Bool} {M D : Nat} (hH : sx_H ha hz T M) (hWD : 0 < D → mw_W (ha 5) M) (hr : sx_run ha hz T M D) (hD : D < 1000000) (k : ∀ (b : Nat → Nat → Int32) (p : Nat → Int32) (t9 : UInt32) (S9 : Nat → Bool), (∀ j, j < 72 → b 0 j = mr_w (fun q => S9 (16 * j + q))) → sx_E (ha 5) (sx_N (sx_it ha hz D sx_0)) (sx_it ha hz D sx_0) (b, p, t9, S9) → K none (am_W ha hz a1 s1 t1 b p t9 al ma ms mt ol od)) : am_Run (d + 8) 15 [.ref 27, .int (nI D)] (am_W ha hz a1 s1 t1 a2 s2 t2 al ma ms mt ol od) K := by
  refine ⟨rfl, fun P hm hP => ?_⟩
  show P 0 [some (.ref 27), some (.int (nI D)), none] [] _ 0 0
  have loop : ∀ (n i : Nat) (b : Nat → Nat → Int32) (p : Nat → Int32) (t9 : UInt32) (S9 : Nat → Bool), i ≤ D → D + 1 ≤ i + n → (∀ j, j < 72 → b 0 j = mr_w (fun q => S9 (16 * j + q))) → sx_E (ha 5) (sx_N (sx_it ha hz i sx_0)) (sx_it ha hz i sx_0) (b, p, t9, S9) → P 6 [some (.ref 27), some (.int (nI D)), some (.int (nI i))] [] (am_W ha hz a1 s1 t1 b p t9 al ma ms mt ol od) 0 0 := by
    intro n
    induction n with
    | zero => intro i b p t9 S9 h3 h4; omega
    | succ n ih =>
      intro i b p t9 S9 h3 h4 hS9 hE
      refine s_iload_n hP t15_6 rfl ?_
      refine s_iload_n hP t15_7 rfl ?_
      refine s_icmp_ge hP t15_8 (fun q8 => ?_) (fun q8 => ?_)
      · have e9 : D ≤ i := (nI_leI (by omega) (by omega)).mp q8
        refine s_return_ hP t15_22 rfl ?_
        obtain rfl : i = D := by omega
        exact k b p t9 S9 hS9 hE
      · have e9 : i < D := Nat.lt_of_not_le (fun q => q8 ((nI_leI (by omega) (by omega)).mpr q))
        refine s_aload_n hP t15_11 rfl ?_
        refine s_invokevirtual (bc' := 0) (bs' := 0) hP t15_12 rfl rfl rfl rfl rfl ?_
        obtain ⟨r1, r2⟩ := hr i e9
        obtain ⟨m1, m2, m3, m4⟩ := sx_more (D := i) hH (hWD (by omega)) (fun k hk => hr k (by omega)) r1 hE
        refine sp16s_2 (a2 := b) (s2 := p) (t2 := t9) (S := S9) hH m2 hS9 m1 (hWD (by omega)) (fun b5 p5 h1 => absurd (m3.trans r2) h1) (fun b5 p5 t5 S5 h1 h2 h3 h4 => ?_)
        refine s_pop hP t15_15 rfl ?_
        refine s_iinc_2 (v := 1) hP t15_16 (by decide) (by exact rfl) ?_
        refine s_goto hP t15_19 ?_
        rw [nI_1]
        exact ih (i + 1) b5 p5 t5 S5 (by omega) (by omega) h2 ((m4 r2).2 _ h3)
  refine s_aload_n hP t15_0 rfl ?_
  refine s_invokevirtual (bc' := 0) (bs' := 0) hP t15_1 rfl rfl rfl rfl rfl ?_
  refine sp11_2 (fun g u v hg hu hv => ?_)
  refine s_iconst (v := 0) hP t15_4 (by decide) ?_
  refine s_istore_n_2 hP t15_5 (by exact rfl) ?_
  exact loop (D + 1) 0 (mc_a0 a2 g u v) (mc_s0 s2) FP.fconst0 (fun _ => true) (by omega) (by omega) (fun j hj => (hg j hj).trans mr_w_all.symm) (sx_begin hu hv)
