/-! THE MODEL RUNS. (rows by gen/sp30.py) -/
noncomputable def sx_res (ha : Nat → Nat → Int32) (hz : Int32) (T : Nat → Bool) (M : Nat) : Nat → Nat → Nat × Int32
  | 0, _ => (0, 45)
  | n + 1, D => if ¬ sx_N (sx_it ha hz D sx_0) < M then (0, 45)
    else if ¬ sx_al ha T (sx_it ha hz D sx_0) = 45 then (0, sx_al ha T (sx_it ha hz D sx_0))
    else if ha 5 (sx_N (sx_it ha hz D sx_0)) = 113 then (1, 45)
    else ((sx_res ha hz T M n (D + 1)).1 + 1, (sx_res ha hz T M n (D + 1)).2)
theorem sx_res_le {ha : Nat → Nat → Int32} {hz : Int32} {T : Nat → Bool} {M : Nat} : ∀ n D, (sx_res ha hz T M n D).1 ≤ n
  | 0, D => Nat.le_refl _
  | n + 1, D => by
    rw [sx_res]
    split
    · exact Nat.zero_le _
    · split
      · exact Nat.zero_le _
      · split
        · exact Nat.le_add_left _ _
        · exact Nat.succ_le_succ (sx_res_le n (D + 1))
theorem mm_s_cg {ms m2 : Nat → Int32} (h : ∀ j, 17 ≤ j → j ≤ 23 → ms j = m2 j) : mm_s ms = mm_s m2 := by
  funext j
  by_cases h8 : j = 8
  · subst h8; exact h 17 (by omega) (by omega)
  · by_cases h9 : j = 9
    · subst h9; exact h 18 (by omega) (by omega)
    · by_cases h10 : j = 10
      · subst h10; exact h 19 (by omega) (by omega)
      · by_cases h12 : j = 12
        · subst h12; exact h 20 (by omega) (by omega)
        · by_cases h13 : j = 13
          · subst h13; exact h 21 (by omega) (by omega)
          · by_cases h14 : j = 14
            · subst h14; exact h 22 (by omega) (by omega)
            · by_cases h15 : j = 15
              · subst h15; exact h 23 (by omega) (by omega)
              · have e : ∀ m : Nat → Int32, mm_s m j = 0 := fun m => by
                  unfold mm_s
                  split
                  all_goals first | omega | rfl
                rw [e, e]
theorem mm_x_cg {ma mb : Nat → Nat → Int32} {ms m2 : Nat → Int32} {t : UInt32} (h4 : ma 4 = mb 4) (h8 : ma 8 = mb 8) (h9 : ma 9 = mb 9) (h11 : ma 11 = mb 11) (h14 : ma 14 = mb 14) (h : ∀ j, 17 ≤ j → j ≤ 23 → ms j = m2 j) : mm_x ma ms t = mm_x mb m2 t := by
  have e1 : mm_a ma = mm_a mb := by
    funext i
    unfold mm_a
    split
    · exact h4
    · exact h9
    · exact h11
    · exact h8
    · exact h14
  have e2 : mg_S ma = mg_S mb := by unfold mg_S; rw [h14]
  rw [mm_x, mm_x, e1, e2, mm_s_cg h]
def mm_R (ha : Nat → Nat → Int32) (hz : Int32) (D : Nat) (ma : Nat → Nat → Int32) (ms : Nat → Int32) (mt : UInt32) : Prop := mg_B ma ∧ sx_E (ha 5) (sx_N (sx_it ha hz D sx_0)) (sx_it ha hz D sx_0) (mm_x ma ms mt)
theorem mm_R_cg {ha : Nat → Nat → Int32} {hz : Int32} {D : Nat} {ma mb : Nat → Nat → Int32} {ms m2 : Nat → Int32} {t : UInt32} (h4 : ma 4 = mb 4) (h8 : ma 8 = mb 8) (h9 : ma 9 = mb 9) (h11 : ma 11 = mb 11) (h14 : ma 14 = mb 14) (h : ∀ j, 17 ≤ j → j ≤ 23 → ms j = m2 j) (hR : mm_R ha hz D ma ms t) : mm_R ha hz D mb m2 t := by
  refine ⟨mg_B_14 h14.symm hR.1, ?_⟩
  rw [← mm_x_cg h4 h8 h9 h11 h14 h]
  exact hR.2
theorem mm_H_ok {ha : Nat → Nat → Int32} {T : Nat → Bool} {M : Nat} {ma mb : Nat → Nat → Int32} {ms m2 : Nat → Int32} (h : ∀ i, i ≠ 4 → i ≠ 8 → i ≠ 9 → i ≠ 11 → i ≠ 12 → i ≠ 14 → mb i = ma i) (h16 : m2 16 = ms 16) (hh : mm_H ha T M ma ms) : mm_H ha T M mb m2 := by
  obtain ⟨h1, h2, h3, h4, h5⟩ := hh
  rw [mm_H, h16, h 0 (by decide) (by decide) (by decide) (by decide) (by decide) (by decide), h 1 (by decide) (by decide) (by decide) (by decide) (by decide) (by decide), h 2 (by decide) (by decide) (by decide) (by decide) (by decide) (by decide), h 3 (by decide) (by decide) (by decide) (by decide) (by decide) (by decide), h 5 (by decide) (by decide) (by decide) (by decide) (by decide) (by decide), h 6 (by decide) (by decide) (by decide) (by decide) (by decide) (by decide), h 7 (by decide) (by decide) (by decide) (by decide) (by decide) (by decide), h 10 (by decide) (by decide) (by decide) (by decide) (by decide) (by decide), h 13 (by decide) (by decide) (by decide) (by decide) (by decide) (by decide)]
  exact ⟨h1, h2, h3, h4, h5⟩
theorem mw_W_cg {kd ke : Nat → Int32} {n : Nat} (h : ∀ i, i < n → kd i = ke i) : mw_W kd n ↔ mw_W ke n := by
  rw [mw_W, mw_W, mw_congr n h]
  exact ⟨fun q => ⟨mw_ok_cg h q.1, q.2⟩, fun q => ⟨mw_ok_cg (fun i hi => (h i hi).symm) q.1, q.2⟩⟩
theorem fit_al {ha : Nat → Nat → Int32} {T : Nat → Bool} {x : sx_X} : fits .char (.int (sx_al ha T x)) = true := by
  rw [sx_al, mx_al]
  split
  · decide
  · split
    · rw [mx_tool, mc_tool]
      split
      · split
        · decide
        · split <;> decide
      · split
        · decide
        · split <;> decide
    · rw [me_cell]
      split
      · decide
      · split
        · decide
        · split <;> decide
theorem nar_al {ha : Nat → Nat → Int32} {T : Nat → Bool} {x : sx_X} : narrow .char (.int (sx_al ha T x)) = .int (sx_al ha T x) := mx_al_nar
set_option maxHeartbeats 4000000 in
theorem sp134 {d : Nat} {K : am_K} {ha : Nat → Nat → Int32} {hz : Int32} {a1 : Nat → Nat → Int32} {s1 : Nat → Int32} {t1 : UInt32} {a2 : Nat → Nat → Int32} {s2 : Nat → Int32} {t2 : UInt32} {al : Int32} {ma : Nat → Nat → Int32} {ms : Nat → Int32} {mt : UInt32} {ol : Nat → Int64} {od : Nat → UInt64} {x : Int32} {T : Nat → Bool} {M D : Nat} (hH : sx_H ha hz T M) (hh0 : mm_H ha T M ma ms) (hr0 : sx_run ha hz T M D) (hR0 : mm_R ha hz D ma ms mt) (k1 : mi_iw x 1 100 = false → K (some (.int 0)) (am_W ha hz a1 s1 t1 a2 s2 t2 al ma (am_u1 ms 15 1) mt ol od)) (k2 : mi_iw x 1 100 = true → ¬ mw_W (ha 5) M → K (some (.int 0)) (am_W ha hz a1 s1 t1 a2 s2 t2 al ma (am_u1 ms 15 2) mt ol od)) (kf : ∀ n, x = nI n → 1 ≤ n → n ≤ 100 → mw_W (ha 5) M → ∀ (r : Nat) (mb : Nat → Nat → Int32) (m9 : Nat → Int32) (t9 : UInt32), sx_res ha hz T M n D = (r, m9 25) → sx_run ha hz T M (D + r) → mm_R ha hz (D + r) mb m9 t9 → mm_H ha T M mb m9 → m9 15 = 0 → K (some (.int (nI r))) (am_W ha hz a1 s1 t1 a2 s2 t2 al mb m9 t9 ol od))  : am_Run (d + 8) 134 [.ref 39, .int x] (am_W ha hz a1 s1 t1 a2 s2 t2 al ma ms mt ol od) K := by
  refine ⟨rfl, fun P hm hP => ?_⟩
  show P 0 [some (.ref 39), some (.int x), none, none] [] _ 0 0
  have hxn : mi_iw x 1 100 = true → ∃ n, x = nI n ∧ 1 ≤ n ∧ n ≤ 100 := fun q => by
    have w := ig_iw q
    rw [show (1 : Int32).toInt = 1 from rfl, show (100 : Int32).toInt = 100 from rfl] at w
    refine ⟨x.toInt.toNat, ?_, by omega, by omega⟩
    apply Int32.toInt_inj.mp
    rw [nI_toInt (by omega)]
    omega
  refine s_aload_n hP t134_0 rfl ?_
  refine s_iload_n hP t134_1 rfl ?_
  refine s_iconst (v := 1) hP t134_2 (by decide) ?_
  refine s_bipush (v := 100) hP t134_3 (by decide) ?_
  refine s_invokestatic (bc' := 0) (bs' := 0) hP t134_5 rfl rfl rfl rfl rfl ?_
  refine sp97 ?_
  refine s_zne hP t134_8 (fun q8 => ?_) (fun q8 => ?_)
  · have hx := hxn q8
    refine s_aload_n hP t134_15 rfl ?_
    refine s_invokevirtual (bc' := 0) (bs' := 0) hP t134_16 rfl rfl rfl rfl rfl ?_
    refine sp112 (n := M) hh0.1 hH.2.1 (fun v hv => ?_)
    refine s_zne hP t134_19 (fun q19 => ?_) (fun q19 => ?_)
    · have hW : mw_W (ha 5) M := (mw_W_cg (fun i hi => (hh0.2.1 i hi).1)).mp (hv.mp q19)
      refine s_iconst (v := 0) hP t134_26 (by decide) ?_
      refine s_putfield hP t134_27 rfl rfl rfl rfl ?_
      refine s_aload_n hP t134_30 rfl ?_
      refine s_getfield hP t134_31 rfl rfl ?_
      refine s_if_le hP t134_34 (fun q34 => ?_) (fun q34 => ?_)
      · refine s_aload_n hP t134_39 rfl ?_
        refine s_bipush (v := 45) hP t134_40 (by decide) ?_
        refine s_putfield hP t134_42 rfl rfl rfl rfl ?_
        refine s_iconst (v := 0) hP t134_45 (by decide) ?_
        refine s_istore_n_2 hP t134_46 (by exact rfl) ?_
        refine s_iconst (v := 0) hP t134_47 (by decide) ?_
        refine s_istore_n_3 hP t134_48 (by exact rfl) ?_
        obtain ⟨n, hx, hn1, hn9⟩ := hx
        have kf := kf n hx hn1 hn9 hW
        have exitS : ∀ (i : Nat) (mb : Nat → Nat → Int32) (m9 : Nat → Int32) (t9 : UInt32), K (some (.int (nI i))) (am_W ha hz a1 s1 t1 a2 s2 t2 al mb m9 t9 ol od) → P 49 [some (.ref 39), some (.int x), some (.int (nI (i))), some (.int 1)] [] (am_W ha hz a1 s1 t1 a2 s2 t2 al mb m9 t9 ol od) 0 0 := by
          intro i mb m9 t9 kk
          refine s_iload_n hP t134_49 rfl ?_
          refine s_iload_n hP t134_50 rfl ?_
          refine s_icmp_ge hP t134_51 (fun q51 => ?_) (fun q51 => ?_)
          · refine s_iload_n hP t134_144 rfl ?_
            refine s_ireturn hP t134_145 rfl rfl ?_
            exact kk
          · refine s_aload_n hP t134_54 rfl ?_
            refine s_getfield hP t134_55 rfl rfl ?_
            refine s_aload_n hP t134_58 rfl ?_
            refine s_getfield hP t134_59 rfl rfl ?_
            refine s_icmp_ge hP t134_62 (fun q62 => ?_) (fun q62 => ?_)
            · refine s_iload_n hP t134_144 rfl ?_
              refine s_ireturn hP t134_145 rfl rfl ?_
              exact kk
            · refine s_aload_n hP t134_65 rfl ?_
              refine s_getfield hP t134_66 rfl rfl ?_
              refine s_bipush (v := 45) hP t134_69 (by decide) ?_
              refine s_icmp_ne hP t134_71 (fun q71 => ?_) (fun q71 => ?_)
              · refine s_iload_n hP t134_144 rfl ?_
                refine s_ireturn hP t134_145 rfl rfl ?_
                exact kk
              · refine s_iload_n hP t134_74 rfl ?_
                refine s_if_ne hP t134_75 (fun q75 => ?_) (fun q75 => ?_)
                · refine s_iload_n hP t134_144 rfl ?_
                  refine s_ireturn hP t134_145 rfl rfl ?_
                  exact kk
                · exact absurd q75 (by decide)
        have exitA : ∀ (i : Nat) (s : Int32) (mb : Nat → Nat → Int32) (m9 : Nat → Int32) (t9 : UInt32), ¬ m9 25 = 45 → K (some (.int (nI i))) (am_W ha hz a1 s1 t1 a2 s2 t2 al mb m9 t9 ol od) → P 49 [some (.ref 39), some (.int x), some (.int (nI (i))), some (.int s)] [] (am_W ha hz a1 s1 t1 a2 s2 t2 al mb m9 t9 ol od) 0 0 := by
          intro i s mb m9 t9 ha45 kk
          refine s_iload_n hP t134_49 rfl ?_
          refine s_iload_n hP t134_50 rfl ?_
          refine s_icmp_ge hP t134_51 (fun q51 => ?_) (fun q51 => ?_)
          · refine s_iload_n hP t134_144 rfl ?_
            refine s_ireturn hP t134_145 rfl rfl ?_
            exact kk
          · refine s_aload_n hP t134_54 rfl ?_
            refine s_getfield hP t134_55 rfl rfl ?_
            refine s_aload_n hP t134_58 rfl ?_
            refine s_getfield hP t134_59 rfl rfl ?_
            refine s_icmp_ge hP t134_62 (fun q62 => ?_) (fun q62 => ?_)
            · refine s_iload_n hP t134_144 rfl ?_
              refine s_ireturn hP t134_145 rfl rfl ?_
              exact kk
            · refine s_aload_n hP t134_65 rfl ?_
              refine s_getfield hP t134_66 rfl rfl ?_
              refine s_bipush (v := 45) hP t134_69 (by decide) ?_
              refine s_icmp_ne hP t134_71 (fun q71 => ?_) (fun q71 => ?_)
              · refine s_iload_n hP t134_144 rfl ?_
                refine s_ireturn hP t134_145 rfl rfl ?_
                exact kk
              · exact absurd q71 ha45
        have loop : ∀ (m i : Nat) (mb : Nat → Nat → Int32) (m9 : Nat → Int32) (t9 : UInt32), i + m = n → sx_res ha hz T M n D = (i + (sx_res ha hz T M m (D + i)).1, (sx_res ha hz T M m (D + i)).2) → sx_run ha hz T M (D + i) → mm_R ha hz (D + i) mb m9 t9 → mm_H ha T M mb m9 → m9 15 = 0 → m9 25 = 45 → P 49 [some (.ref 39), some (.int x), some (.int (nI (i))), some (.int 0)] [] (am_W ha hz a1 s1 t1 a2 s2 t2 al mb m9 t9 ol od) 0 0 := by
          intro m
          induction m with
          | zero =>
            intro i mb m9 t9 h3 hres hr hR hh h15 h25
            refine s_iload_n hP t134_49 rfl ?_
            refine s_iload_n hP t134_50 rfl ?_
            refine s_icmp_ge hP t134_51 (fun q51 => ?_) (fun q51 => ?_)
            · refine s_iload_n hP t134_144 rfl ?_
              refine s_ireturn hP t134_145 rfl rfl ?_
              rw [show sx_res ha hz T M 0 (D + i) = (0, 45) from rfl] at hres
              exact kf i mb m9 t9 (by rw [h25]; exact hres) hr hR hh h15
            · exact absurd (by rw [hx, show n = i by omega]; exact Int32.le_refl _) q51
          | succ m ih =>
            intro i mb m9 t9 h3 hres hr hR hh h15 h25
            have hDV := sx_it_V hH hW _ hr
            have h17 : m9 17 = nI (sx_N (sx_it ha hz (D + i) sx_0)) := by
              have e := hR.2.2.2.2.2.1 8 (by omega) (by omega) (by omega)
              obtain ⟨N, v1, v2⟩ := hDV.1
              rw [v1] at e
              rw [sx_N, v1, nI_clamp (by have := hH.2.1; omega)]
              exact e.symm
            have hNM : sx_N (sx_it ha hz (D + i) sx_0) ≤ M := by
              obtain ⟨N, v1, v2⟩ := hDV.1
              rw [sx_N, v1, nI_clamp (by have := hH.2.1; omega)]
              exact v2
            refine s_iload_n hP t134_49 rfl ?_
            refine s_iload_n hP t134_50 rfl ?_
            refine s_icmp_ge hP t134_51 (fun q51 => ?_) (fun q51 => ?_)
            · exact absurd q51 (by rw [hx, nI_leI (by omega) (by omega)]; omega)
            · refine s_aload_n hP t134_54 rfl ?_
              refine s_getfield hP t134_55 rfl rfl ?_
              refine s_aload_n hP t134_58 rfl ?_
              refine s_getfield hP t134_59 rfl rfl ?_
              refine s_icmp_ge hP t134_62 (fun q62 => ?_) (fun q62 => ?_)
              · have hN9 : ¬ sx_N (sx_it ha hz (D + i) sx_0) < M := fun q => absurd q62 (by rw [h17, hh.1, nI_leI (by have := hH.2.1; omega) (by have := hH.2.1; omega)]; omega)
                refine s_iload_n hP t134_144 rfl ?_
                refine s_ireturn hP t134_145 rfl rfl ?_
                have hr9 : sx_res ha hz T M (m + 1) (D + i) = (0, 45) := by rw [sx_res, if_pos hN9]
                rw [hr9] at hres
                exact kf i mb m9 t9 (by rw [h25]; exact hres) hr hR hh h15
              · have hN9 : sx_N (sx_it ha hz (D + i) sx_0) < M := Nat.lt_of_not_le (fun q => q62 (by rw [h17, hh.1]; exact (nI_leI (by have := hH.2.1; omega) (by have := hH.2.1; omega)).mpr q))
                refine s_aload_n hP t134_65 rfl ?_
                refine s_getfield hP t134_66 rfl rfl ?_
                refine s_bipush (v := 45) hP t134_69 (by decide) ?_
                refine s_icmp_ne hP t134_71 (fun q71 => ?_) (fun q71 => ?_)
                · exact absurd h25 q71
                · refine s_iload_n hP t134_74 rfl ?_
                  refine s_if_ne hP t134_75 (fun q75 => ?_) (fun q75 => ?_)
                  · exact absurd rfl q75
                  · refine s_aload_n hP t134_78 rfl ?_
                    refine s_getfield hP t134_79 rfl rfl ?_
                    refine s_aload_n hP t134_82 rfl ?_
                    refine s_getfield hP t134_83 rfl rfl ?_
                    refine s_caload hP t134_86 rfl (by rw [h17]; exact vp_in_nI (by have := hH.2.1; omega) (by decide)) ?_
                    rw [h17, nI_clamp (by have := hH.2.1; omega), (hh.2.1 _ hN9).1]
                    refine s_bipush (v := 113) hP t134_87 (by decide) ?_
                    refine s_icmp_ne hP t134_89 (fun q89 => ?_) (fun q89 => ?_)
                    · have hk9 : ¬ ha 5 (sx_N (sx_it ha hz (D + i) sx_0)) = 113 := q89
                      refine s_iconst (v := 0) hP t134_96 (by decide) ?_
                      refine s_istore_n_3 hP t134_97 (by exact rfl) ?_
                      refine s_aload_n hP t134_98 rfl ?_
                      refine s_aload_n hP t134_99 rfl ?_
                      refine s_invokevirtual (bc' := 0) (bs' := 0) hP t134_100 rfl rfl rfl rfl rfl ?_
                      have hV := sx_more hH hW hr hN9 hR.2
                      obtain ⟨c1, c2, c3, c4⟩ := hV
                      refine sp133s (ma := mb) (ms := m9) (mt := t9) hH hh hR.1 c2 c1 hW (fun mb6 ms6 h1 h2 h3 => ?_) (fun mb6 ms6 t6 h1 h2 h3 h4 => ?_)
                      · rw [c3] at h1 ⊢
                        refine s_putfield hP t134_103 rfl rfl nar_al fit_al ?_
                        refine s_aload_n hP t134_106 rfl ?_
                        refine s_getfield hP t134_107 rfl rfl ?_
                        refine s_bipush (v := 45) hP t134_110 (by decide) ?_
                        refine s_icmp_eq hP t134_112 (fun q112 => absurd q112 h1) (fun _ => ?_)
                        refine s_goto hP t134_115 ?_
                        refine exitA i 0 mb6 (am_u1 ms6 25 (sx_al ha T (sx_it ha hz (D + i) sx_0))) t9 h1 ?_
                        have hr9 : sx_res ha hz T M (m + 1) (D + i) = (0, sx_al ha T (sx_it ha hz (D + i) sx_0)) := by rw [sx_res, if_neg (fun q => q hN9), if_pos h1]
                        rw [hr9] at hres
                        exact kf i mb6 (am_u1 ms6 25 (sx_al ha T (sx_it ha hz (D + i) sx_0))) t9 (by rw [am_u1_yes]; exact hres) hr (mm_R_cg (h2 4 (by decide)).symm (h2 8 (by decide)).symm (h2 9 (by decide)).symm (h2 11 (by decide)).symm (h2 14 (by decide)).symm (fun j h7 h8 => by rw [am_u1_no (by omega), h3 j (by omega)]) hR) (mm_H_ok (fun i9 g1 g2 g3 g4 g5 g6 => h2 i9 g5) (h3 16 (by decide)) hh) ((h3 15 (by decide)).trans h15)
                      · rw [c3] at h1
                        obtain ⟨d1, d2⟩ := c4 h1
                        refine s_putfield hP t134_103 rfl rfl rfl rfl ?_
                        refine s_aload_n hP t134_106 rfl ?_
                        refine s_getfield hP t134_107 rfl rfl ?_
                        refine s_bipush (v := 45) hP t134_110 (by decide) ?_
                        refine s_icmp_eq hP t134_112 (fun _ => ?_) (fun q112 => absurd rfl q112)
                        refine s_aload_n hP t134_118 rfl ?_
                        refine s_dup hP t134_119 rfl ?_
                        refine s_getfield hP t134_120 rfl rfl ?_
                        refine s_iconst (v := 1) hP t134_123 (by decide) ?_
                        refine s_iadd hP t134_124 ?_
                        refine s_putfield hP t134_125 rfl rfl rfl rfl ?_
                        refine s_aload_n hP t134_128 rfl ?_
                        refine s_dup hP t134_129 rfl ?_
                        refine s_getfield hP t134_130 rfl rfl ?_
                        refine s_iconst (v := 1) hP t134_133 (by decide) ?_
                        refine s_iadd hP t134_134 ?_
                        refine s_putfield hP t134_135 rfl rfl rfl rfl ?_
                        refine s_iinc_2 (v := 1) hP t134_138 (by decide) (by exact rfl) ?_
                        refine s_goto hP t134_141 ?_
                        have R6 : mm_R ha hz (D + i + 1) mb6 (am_u1 (am_u1 (am_u1 ms6 25 45) 17 (ms6 17 + 1)) 18 (ms6 18 + 1)) t6 := ⟨mg_B_14 rfl h3, by
                          rw [mm_x_cg (mb := mb6) (m2 := mm_up ms6) rfl rfl rfl rfl rfl (fun j h7 h8 => ?_)]
                          · exact d2 _ h4
                          · have : j = 17 ∨ j = 18 ∨ (j ≠ 17 ∧ j ≠ 18) := by omega
                            rcases this with rfl | rfl | ⟨h5, h6⟩
                            · rfl
                            · rfl
                            · rw [mm_up_o h5 h6, am_u1_no h6, am_u1_no h5, am_u1_no (by omega)]⟩
                        have H6 : mm_H ha T M mb6 (am_u1 (am_u1 (am_u1 ms6 25 45) 17 (ms6 17 + 1)) 18 (ms6 18 + 1)) := mm_H_ok h2.1 (h2.2 16 (by omega)) hh
                        have e15 : (am_u1 (am_u1 (am_u1 ms6 25 45) 17 (ms6 17 + 1)) 18 (ms6 18 + 1)) 15 = 0 := (h2.2 15 (by omega)).trans h15
                        rw [nI_1]
                        have hr9 : sx_res ha hz T M (m + 1) (D + i) = ((sx_res ha hz T M m (D + i + 1)).1 + 1, (sx_res ha hz T M m (D + i + 1)).2) := by rw [sx_res, if_neg (fun q => q hN9), if_neg (fun q => q h1), if_neg hk9]
                        rw [hr9] at hres
                        exact ih (i + 1) mb6 (am_u1 (am_u1 (am_u1 ms6 25 45) 17 (ms6 17 + 1)) 18 (ms6 18 + 1)) t6 (by omega) (hres.trans (by
                          rw [show D + (i + 1) = D + i + 1 by omega]
                          congr 1
                          omega)) d1 R6 H6 e15 rfl
                      
                      
                    · have hk9 : ha 5 (sx_N (sx_it ha hz (D + i) sx_0)) = 113 := q89
                      refine s_iconst (v := 1) hP t134_92 (by decide) ?_
                      refine s_goto hP t134_93 ?_
                      refine s_istore_n_3 hP t134_97 (by exact rfl) ?_
                      refine s_aload_n hP t134_98 rfl ?_
                      refine s_aload_n hP t134_99 rfl ?_
                      refine s_invokevirtual (bc' := 0) (bs' := 0) hP t134_100 rfl rfl rfl rfl rfl ?_
                      have hV := sx_more hH hW hr hN9 hR.2
                      obtain ⟨c1, c2, c3, c4⟩ := hV
                      refine sp133s (ma := mb) (ms := m9) (mt := t9) hH hh hR.1 c2 c1 hW (fun mb6 ms6 h1 h2 h3 => ?_) (fun mb6 ms6 t6 h1 h2 h3 h4 => ?_)
                      · rw [c3] at h1 ⊢
                        refine s_putfield hP t134_103 rfl rfl nar_al fit_al ?_
                        refine s_aload_n hP t134_106 rfl ?_
                        refine s_getfield hP t134_107 rfl rfl ?_
                        refine s_bipush (v := 45) hP t134_110 (by decide) ?_
                        refine s_icmp_eq hP t134_112 (fun q112 => absurd q112 h1) (fun _ => ?_)
                        refine s_goto hP t134_115 ?_
                        refine exitA i 1 mb6 (am_u1 ms6 25 (sx_al ha T (sx_it ha hz (D + i) sx_0))) t9 h1 ?_
                        have hr9 : sx_res ha hz T M (m + 1) (D + i) = (0, sx_al ha T (sx_it ha hz (D + i) sx_0)) := by rw [sx_res, if_neg (fun q => q hN9), if_pos h1]
                        rw [hr9] at hres
                        exact kf i mb6 (am_u1 ms6 25 (sx_al ha T (sx_it ha hz (D + i) sx_0))) t9 (by rw [am_u1_yes]; exact hres) hr (mm_R_cg (h2 4 (by decide)).symm (h2 8 (by decide)).symm (h2 9 (by decide)).symm (h2 11 (by decide)).symm (h2 14 (by decide)).symm (fun j h7 h8 => by rw [am_u1_no (by omega), h3 j (by omega)]) hR) (mm_H_ok (fun i9 g1 g2 g3 g4 g5 g6 => h2 i9 g5) (h3 16 (by decide)) hh) ((h3 15 (by decide)).trans h15)
                      · rw [c3] at h1
                        obtain ⟨d1, d2⟩ := c4 h1
                        refine s_putfield hP t134_103 rfl rfl rfl rfl ?_
                        refine s_aload_n hP t134_106 rfl ?_
                        refine s_getfield hP t134_107 rfl rfl ?_
                        refine s_bipush (v := 45) hP t134_110 (by decide) ?_
                        refine s_icmp_eq hP t134_112 (fun _ => ?_) (fun q112 => absurd rfl q112)
                        refine s_aload_n hP t134_118 rfl ?_
                        refine s_dup hP t134_119 rfl ?_
                        refine s_getfield hP t134_120 rfl rfl ?_
                        refine s_iconst (v := 1) hP t134_123 (by decide) ?_
                        refine s_iadd hP t134_124 ?_
                        refine s_putfield hP t134_125 rfl rfl rfl rfl ?_
                        refine s_aload_n hP t134_128 rfl ?_
                        refine s_dup hP t134_129 rfl ?_
                        refine s_getfield hP t134_130 rfl rfl ?_
                        refine s_iconst (v := 1) hP t134_133 (by decide) ?_
                        refine s_iadd hP t134_134 ?_
                        refine s_putfield hP t134_135 rfl rfl rfl rfl ?_
                        refine s_iinc_2 (v := 1) hP t134_138 (by decide) (by exact rfl) ?_
                        refine s_goto hP t134_141 ?_
                        have R6 : mm_R ha hz (D + i + 1) mb6 (am_u1 (am_u1 (am_u1 ms6 25 45) 17 (ms6 17 + 1)) 18 (ms6 18 + 1)) t6 := ⟨mg_B_14 rfl h3, by
                          rw [mm_x_cg (mb := mb6) (m2 := mm_up ms6) rfl rfl rfl rfl rfl (fun j h7 h8 => ?_)]
                          · exact d2 _ h4
                          · have : j = 17 ∨ j = 18 ∨ (j ≠ 17 ∧ j ≠ 18) := by omega
                            rcases this with rfl | rfl | ⟨h5, h6⟩
                            · rfl
                            · rfl
                            · rw [mm_up_o h5 h6, am_u1_no h6, am_u1_no h5, am_u1_no (by omega)]⟩
                        have H6 : mm_H ha T M mb6 (am_u1 (am_u1 (am_u1 ms6 25 45) 17 (ms6 17 + 1)) 18 (ms6 18 + 1)) := mm_H_ok h2.1 (h2.2 16 (by omega)) hh
                        have e15 : (am_u1 (am_u1 (am_u1 ms6 25 45) 17 (ms6 17 + 1)) 18 (ms6 18 + 1)) 15 = 0 := (h2.2 15 (by omega)).trans h15
                        rw [nI_1]
                        have hr9 : sx_res ha hz T M (m + 1) (D + i) = (1, 45) := by rw [sx_res, if_neg (fun q => q hN9), if_neg (fun q => q h1), if_pos hk9]
                        rw [hr9] at hres
                        exact exitS (i + 1) mb6 (am_u1 (am_u1 (am_u1 ms6 25 45) 17 (ms6 17 + 1)) 18 (ms6 18 + 1)) t6 (kf (i + 1) mb6 (am_u1 (am_u1 (am_u1 ms6 25 45) 17 (ms6 17 + 1)) 18 (ms6 18 + 1)) t6 hres d1 R6 H6 e15)
                      
                      
        exact loop n 0 ma (am_u1 (am_u1 ms 15 0) 25 45) mt (by omega) (by rw [Nat.add_zero, Nat.zero_add]) hr0 (mm_R_cg rfl rfl rfl rfl rfl (fun j h7 h8 => by rw [am_u1_no (by omega), am_u1_no (by omega)]) hR0) (mm_H_ok (fun _ _ _ _ _ _ _ => rfl) rfl hh0) rfl rfl
      · exact absurd (Int32.le_refl _) q34
    · have hW : ¬ mw_W (ha 5) M := fun r => by
        rw [hv.mpr ((mw_W_cg (fun i hi => (hh0.2.1 i hi).1)).mpr r)] at q19
        cases q19
      refine s_iconst (v := 2) hP t134_22 (by decide) ?_
      refine s_goto hP t134_23 ?_
      refine s_putfield hP t134_27 rfl rfl rfl rfl ?_
      refine s_aload_n hP t134_30 rfl ?_
      refine s_getfield hP t134_31 rfl rfl ?_
      refine s_if_le hP t134_34 (fun q34 => ?_) (fun q34 => ?_)
      · exact absurd q34 (by decide)
      · refine s_iconst (v := 0) hP t134_37 (by decide) ?_
        refine s_ireturn hP t134_38 rfl rfl ?_
        exact k2 q8 hW
  · refine s_iconst (v := 1) hP t134_11 (by decide) ?_
    refine s_goto hP t134_12 ?_
    refine s_putfield hP t134_27 rfl rfl rfl rfl ?_
    refine s_aload_n hP t134_30 rfl ?_
    refine s_getfield hP t134_31 rfl rfl ?_
    refine s_if_le hP t134_34 (fun q34 => ?_) (fun q34 => ?_)
    · exact absurd q34 (by decide)
    · refine s_iconst (v := 0) hP t134_37 (by decide) ?_
      refine s_ireturn hP t134_38 rfl rfl ?_
      exact k1 q8
