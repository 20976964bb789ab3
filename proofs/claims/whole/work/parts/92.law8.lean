/-! THE LAW'S GROUPS: putCutter. (rows by gen/sp45.py) -/
theorem lw_takes {A : Nat} {z : Int32} (hA : A < 3) : mi_takes (nI A) z = (decide (nI A = 2) || decide (z = if nI A = 0 then 101 else 98)) := by
  have : A = 0 ∨ A = 1 ∨ A = 2 := by omega
  rcases this with rfl | rfl | rfl
  · rw [mi_takes, if_pos (show nI 0 = 0 by decide), if_pos (show nI 0 = 0 by decide), decide_eq_false (show ¬ nI 0 = 2 by decide), Bool.false_or]
  · rw [mi_takes, if_neg (show ¬ nI 1 = 0 by decide), if_neg (show ¬ nI 1 = 0 by decide), decide_eq_false (show ¬ nI 1 = 2 by decide), Bool.false_or, decide_eq_false (show ¬ ¬ nI 1 = 1 by decide), Bool.false_or]
  · rw [mi_takes, if_neg (show ¬ nI 2 = 0 by decide), decide_eq_true (show nI 2 = 2 by decide), Bool.true_or, decide_eq_true (show ¬ nI 2 = 1 by decide), Bool.true_or]
theorem lw_put {ha : Nat → Nat → Int32} {hz : Int32} {T : Nat → Bool} {M c : Nat} {z r l : Int32} {ma : Nat → Nat → Int32} {ms : Nat → Int32} (hc : c < 12) (hs : mi_shape z = true) (hr : mi_iw r 0 3 = true) (hH : sx_H ha hz T M) (hh : mm_H ha T M ma ms) : sx_H (am_u2 (am_u2 (am_u2 ha 0 (upd (ha 0) c z)) 1 (upd (ha 1) c r)) 2 (upd (ha 2) c l)) hz T M ∧ mm_H (am_u2 (am_u2 (am_u2 ha 0 (upd (ha 0) c z)) 1 (upd (ha 1) c r)) 2 (upd (ha 2) c l)) T M (mb_put ma c z r l) (am_u1 ms 15 0) := by
  obtain ⟨h1, h2, h3, h4, h5, h6, h7, h8⟩ := hH
  obtain ⟨g1, g2, g3, g4, g5⟩ := hh
  have hz3 : z = 101 ∨ z = 98 ∨ z = 118 := by
    rw [mi_shape, Bool.or_eq_true, Bool.or_eq_true, decide_eq_true_eq, decide_eq_true_eq, decide_eq_true_eq] at hs
    rcases hs with (h | h) | h
    · exact Or.inl h
    · exact Or.inr (Or.inl h)
    · exact Or.inr (Or.inr h)
  obtain ⟨R, hR, hrR⟩ := mi_iw_nI (N := 3) rfl (by decide) hr
  refine ⟨⟨h1, h2, h3, fun d hd => ?_, fun d hd => ?_, h6, h7, h8⟩, g1, g2, fun d hd => ⟨?_, ?_, ?_⟩, g4, g5⟩
  · show upd (ha 0) c z d = 0 ∨ upd (ha 0) c z d = 101 ∨ upd (ha 0) c z d = 98 ∨ upd (ha 0) c z d = 118
    by_cases e : d = c
    · rw [e, show upd (ha 0) c z c = z from pk_us]; exact Or.inr hz3
    · rw [show upd (ha 0) c z d = ha 0 d from pk_un e]; exact h4 d hd
  · show ∃ R, R < 4 ∧ upd (ha 1) c r d = nI R
    by_cases e : d = c
    · rw [e, show upd (ha 1) c r c = r from pk_us]; exact ⟨R, by omega, hrR⟩
    · rw [show upd (ha 1) c r d = ha 1 d from pk_un e]; exact h5 d hd
  · show upd (ma 0) c z d = if upd (ha 0) c z d = 0 then 45 else upd (ha 0) c z d
    by_cases e : d = c
    · rw [e, show upd (ha 0) c z c = z from pk_us, show upd (ma 0) c z c = z from pk_us, if_neg (by rcases hz3 with h | h | h <;> rw [h] <;> decide)]
    · rw [show upd (ha 0) c z d = ha 0 d from pk_un e, show upd (ma 0) c z d = ma 0 d from pk_un e]; exact (g3 d hd).1
  · show upd (ma 2) c r d = upd (ha 1) c r d
    by_cases e : d = c
    · rw [e]; exact pk_us.trans pk_us.symm
    · exact (pk_un e).trans ((g3 d hd).2.1.trans (pk_un e).symm)
  · show upd (ma 3) c l d = upd (ha 2) c l d
    by_cases e : d = c
    · rw [e]; exact pk_us.trans pk_us.symm
    · exact (pk_un e).trans ((g3 d hd).2.2.trans (pk_un e).symm)
theorem lw_cnt {f m : Nat → Int32} {A : Nat} (hA : A < 3) (h : ∀ d, d < 12 → (m d = 45 ↔ f d = 0)) : mr_cnt 4 (fun j => mi_fil f (nI (4 * A + 0) + nI j)) = mr_cnt 4 (fun j => !decide (m (4 * A + j) = 45)) := by
  refine mr_cnt_cg 4 (fun j hj => ?_)
  show mi_fil f (nI (4 * A + 0) + nI j) = !decide (m (4 * A + j) = 45)
  rw [nI_add, mi_fil, mi_iw11 (by omega), Bool.true_and, nI_clamp (by omega), show 4 * A + 0 + j = 4 * A + j by omega, decide_not]
  exact congrArg (!·) (decide_eq_decide.mpr (h _ (by omega)).symm)
set_option maxHeartbeats 8000000 in
theorem sp102s {d : Nat} {K : am_K} {ha : Nat → Nat → Int32} {hz : Int32} {a1 : Nat → Nat → Int32} {s1 : Nat → Int32} {t1 : UInt32} {a2 : Nat → Nat → Int32} {s2 : Nat → Int32} {t2 : UInt32} {al : Int32} {ma : Nat → Nat → Int32} {ms : Nat → Int32} {mt : UInt32} {ol : Nat → Int64} {od : Nat → UInt64} {x y z r l : Int32} (kin : ∀ A C, A < 3 → C < 4 → x = nI A → y = nI C → mi_shape z = true → mi_iw r 0 3 = true → mi_iw l 1 999 = true → (decide (x = 2) || decide (z = if x = 0 then 101 else 98)) = true → ∀ g u v : Nat → Int32, (∀ j, j < 1152 → g j = 0) → (∀ j, j < 12 → u j = 0) → (∀ j, j < 8 → v j = 0) → K (some (.int (nI (mr_cnt 4 (fun j => !decide ((mb_put ma (4 * A + C) z r l 0) (4 * A + j) = 45)))))) (am_W ha hz a1 s1 t1 a2 s2 t2 al (mb_a0 (mb_put ma (4 * A + C) z r l) g u v) (mb_s0 (am_u1 ms 15 0)) FP.fconst0 ol od)) (k1 : mi_slot x y = false → K (some (.int 0)) (am_W ha hz a1 s1 t1 a2 s2 t2 al ma (am_u1 ms 15 1) mt ol od)) (k2 : mi_slot x y = true → (mi_shape z && (mi_iw r 0 3 && mi_iw l 1 999)) = false → K (some (.int 0)) (am_W ha hz a1 s1 t1 a2 s2 t2 al ma (am_u1 ms 15 2) mt ol od)) (k3 : mi_slot x y = true → mi_shape z = true → mi_iw r 0 3 = true → mi_iw l 1 999 = true → (decide (x = 2) || decide (z = if x = 0 then 101 else 98)) = false → K (some (.int 0)) (am_W ha hz a1 s1 t1 a2 s2 t2 al ma (am_u1 ms 15 3) mt ol od)) : am_Run (d + 3) 102 [.ref 39, .int x, .int y, .int z, .int r, .int l] (am_W ha hz a1 s1 t1 a2 s2 t2 al ma ms mt ol od) K := by
  refine ⟨rfl, fun P hm hP => ?_⟩
  show P 0 [some (.ref 39), some (.int x), some (.int y), some (.int z), some (.int r), some (.int l), none, none, none, none, none] [] _ 0 0
  have at155 : ∀ A C, A < 3 → C < 4 → x = nI A → y = nI C → mi_shape z = true → mi_iw r 0 3 = true → mi_iw l 1 999 = true → (decide (x = 2) || decide (z = if x = 0 then 101 else 98)) = true → ∀ g u v : Nat → Int32, (∀ j, j < 1152 → g j = 0) → (∀ j, j < 12 → u j = 0) → (∀ j, j < 8 → v j = 0) → P 155 [some (.ref 39), some (.int x), some (.int y), some (.int z), some (.int r), some (.int l), some (.int (am_b (mi_shape z))), some (.int (am_b (decide (x = 2) || decide (z = if x = 0 then 101 else 98)))), some (.int (nI (4 * A + C))), none, none] [] (am_W ha hz a1 s1 t1 a2 s2 t2 al (mb_a0 (mb_put ma (4 * A + C) z r l) g u v) (mb_s0 (am_u1 ms 15 0)) FP.fconst0 ol od) 0 0 := by
    intro A C hA hC hx hy hsh hr hl htk g u v hg hu hv
    subst hx
    subst hy
    have loop : ∀ (n i : Nat), i ≤ 4 → 4 + 1 ≤ i + n → P 163 [some (.ref 39), some (.int (nI A)), some (.int (nI C)), some (.int z), some (.int r), some (.int l), some (.int (am_b (mi_shape z))), some (.int (am_b (decide (nI A = 2) || decide (z = if nI A = 0 then 101 else 98)))), some (.int (nI (4 * A + C))), some (.int (nI (mr_cnt i (fun j => !decide ((mb_put ma (4 * A + C) z r l 0) (4 * A + j) = 45))))), some (.int (nI (4 * A + i)))] [] (am_W ha hz a1 s1 t1 a2 s2 t2 al (mb_a0 (mb_put ma (4 * A + C) z r l) g u v) (mb_s0 (am_u1 ms 15 0)) FP.fconst0 ol od) 0 0 := by
      intro n
      induction n with
      | zero => intro i h3 h4; omega
      | succ n ih =>
        intro i h3 h4
        refine s_iload hP t102_163 rfl ?_
        refine s_iconst (v := 4) hP t102_165 (by decide) ?_
        refine s_iload_n hP t102_166 rfl ?_
        refine s_imul hP t102_167 ?_
        rw [show (4 : Int32) * nI A = nI (4 * A) by rw [show (4 : Int32) = nI 4 from rfl, pk_mul]]
        refine s_iconst (v := 4) hP t102_168 (by decide) ?_
        refine s_iadd hP t102_169 ?_
        rw [show nI (4 * A) + 4 = nI (4 * A + 4) from nI_add (4 * A) 4]
        refine s_icmp_ge hP t102_170 (fun q170 => ?_) (fun q170 => ?_)
        · have e9 : 4 ≤ i := by
            have := (nI_leI (by omega) (by omega)).mp q170
            omega
          refine s_iload hP t102_201 rfl ?_
          refine s_ireturn hP t102_203 rfl rfl ?_
          obtain rfl : i = 4 := by omega
          exact kin A C hA hC rfl rfl hsh hr hl htk g u v hg hu hv
        · have e9 : i < 4 := Nat.lt_of_not_le (fun q => q170 ((nI_leI (by omega) (by omega)).mpr (by omega)))
          refine s_iload hP t102_173 rfl ?_
          refine s_aload_n hP t102_175 rfl ?_
          refine s_getfield hP t102_176 rfl rfl ?_
          refine s_iload hP t102_179 rfl ?_
          refine s_caload hP t102_181 rfl (vp_in_nI (by omega) (by decide)) ?_
          rw [nI_clamp (by omega)]
          refine s_bipush (v := 45) hP t102_182 (by decide) ?_
          refine s_icmp_ne hP t102_184 (fun q184 => ?_) (fun q184 => ?_)
          · have e21 : (!decide ((mb_put ma (4 * A + C) z r l 0) (4 * A + i) = 45)) = true := by
              have q9 : ¬ (mb_put ma (4 * A + C) z r l 0) (4 * A + i) = 45 := q184
              rw [decide_eq_false q9]; rfl
            refine s_iconst (v := 1) hP t102_191 (by decide) ?_
            refine s_iadd hP t102_192 ?_
            rw [show nI (mr_cnt i (fun j => !decide ((mb_put ma (4 * A + C) z r l 0) (4 * A + j) = 45))) + 1 = nI (mr_cnt (i + 1) (fun j => !decide ((mb_put ma (4 * A + C) z r l 0) (4 * A + j) = 45))) by rw [nI_1, mr_cnt, e21]; rfl]
            refine s_istore_9 hP t102_193 (by exact rfl) ?_
            refine s_iinc_10 (v := 1) hP t102_195 (by decide) (by exact rfl) ?_
            refine s_goto hP t102_198 ?_
            rw [nI_1]
            exact ih (i + 1) (by omega) (by omega)
          · have e21 : (!decide ((mb_put ma (4 * A + C) z r l 0) (4 * A + i) = 45)) = false := by
              have q9 : (mb_put ma (4 * A + C) z r l 0) (4 * A + i) = 45 := q184
              rw [decide_eq_true q9]; rfl
            refine s_iconst (v := 0) hP t102_187 (by decide) ?_
            refine s_goto hP t102_188 ?_
            refine s_iadd hP t102_192 ?_
            rw [show nI (mr_cnt i (fun j => !decide ((mb_put ma (4 * A + C) z r l 0) (4 * A + j) = 45))) + 0 = nI (mr_cnt (i + 1) (fun j => !decide ((mb_put ma (4 * A + C) z r l 0) (4 * A + j) = 45))) by rw [show ∀ n : Nat, nI n + 0 = nI n from fun n => nI_add n 0, mr_cnt, e21]; rfl]
            refine s_istore_9 hP t102_193 (by exact rfl) ?_
            refine s_iinc_10 (v := 1) hP t102_195 (by decide) (by exact rfl) ?_
            refine s_goto hP t102_198 ?_
            rw [nI_1]
            exact ih (i + 1) (by omega) (by omega)
    refine s_iconst (v := 0) hP t102_155 (by decide) ?_
    refine s_istore_9 hP t102_156 (by exact rfl) ?_
    refine s_iconst (v := 4) hP t102_158 (by decide) ?_
    refine s_iload_n hP t102_159 rfl ?_
    refine s_imul hP t102_160 ?_
    rw [show (4 : Int32) * nI A = nI (4 * A) by rw [show (4 : Int32) = nI 4 from rfl, pk_mul]]
    refine s_istore_10 hP t102_161 (by exact rfl) ?_
    exact loop 5 0 (by omega) (by omega)
  have at52 : P 52 [some (.ref 39), some (.int x), some (.int y), some (.int z), some (.int r), some (.int l), some (.int (am_b (mi_shape z))), some (.int (am_b (decide (x = 2) || decide (z = if x = 0 then 101 else 98)))), none, none, none] [] (am_W ha hz a1 s1 t1 a2 s2 t2 al ma ms mt ol od) 0 0 := by
    refine s_aload_n hP t102_52 rfl ?_
    refine s_iload_n hP t102_53 rfl ?_
    refine s_iload_n hP t102_54 rfl ?_
    refine s_invokestatic (bc' := 0) (bs' := 0) hP t102_55 rfl rfl rfl rfl rfl ?_
    refine sp101 ?_
    refine s_zne hP t102_58 (fun q58 => ?_) (fun q58 => ?_)
    · obtain ⟨A, C, hA, hC, rfl, rfl⟩ := mi_slot_nI q58
      refine s_iload hP t102_65 rfl ?_
      refine s_zeq hP t102_67 (fun q67 => ?_) (fun q67 => ?_)
      · refine s_iconst (v := 2) hP t102_92 (by decide) ?_
        refine s_goto hP t102_93 ?_
        refine s_putfield hP t102_106 rfl rfl rfl rfl ?_
        refine s_aload_n hP t102_109 rfl ?_
        refine s_getfield hP t102_110 rfl rfl ?_
        refine s_if_le hP t102_113 (fun q113 => ?_) (fun q113 => ?_)
        · exact absurd q113 (show ¬ (2 : Int32) ≤ 0 by decide)
        · refine s_iconst (v := 0) hP t102_116 (by decide) ?_
          refine s_ireturn hP t102_117 rfl rfl ?_
          exact k2 q58 (by rw [q67]; simp)
      · refine s_iload hP t102_70 rfl ?_
        refine s_iconst (v := 0) hP t102_72 (by decide) ?_
        refine s_iconst (v := 3) hP t102_73 (by decide) ?_
        refine s_invokestatic (bc' := 0) (bs' := 0) hP t102_74 rfl rfl rfl rfl rfl ?_
        refine sp97 ?_
        refine s_zeq hP t102_77 (fun q77 => ?_) (fun q77 => ?_)
        · refine s_iconst (v := 2) hP t102_92 (by decide) ?_
          refine s_goto hP t102_93 ?_
          refine s_putfield hP t102_106 rfl rfl rfl rfl ?_
          refine s_aload_n hP t102_109 rfl ?_
          refine s_getfield hP t102_110 rfl rfl ?_
          refine s_if_le hP t102_113 (fun q113 => ?_) (fun q113 => ?_)
          · exact absurd q113 (show ¬ (2 : Int32) ≤ 0 by decide)
          · refine s_iconst (v := 0) hP t102_116 (by decide) ?_
            refine s_ireturn hP t102_117 rfl rfl ?_
            exact k2 q58 (by rw [q77]; simp)
        · refine s_iload hP t102_80 rfl ?_
          refine s_iconst (v := 1) hP t102_82 (by decide) ?_
          refine s_sipush (v := 999) hP t102_83 (by decide) ?_
          refine s_invokestatic (bc' := 0) (bs' := 0) hP t102_86 rfl rfl rfl rfl rfl ?_
          refine sp97 ?_
          refine s_zne hP t102_89 (fun q89 => ?_) (fun q89 => ?_)
          · refine s_iload hP t102_96 rfl ?_
            refine s_zne hP t102_98 (fun q98 => ?_) (fun q98 => ?_)
            · refine s_iconst (v := 0) hP t102_105 (by decide) ?_
              refine s_putfield hP t102_106 rfl rfl rfl rfl ?_
              refine s_aload_n hP t102_109 rfl ?_
              refine s_getfield hP t102_110 rfl rfl ?_
              refine s_if_le hP t102_113 (fun q113 => ?_) (fun q113 => ?_)
              · refine s_iconst (v := 4) hP t102_118 (by decide) ?_
                refine s_iload_n hP t102_119 rfl ?_
                refine s_imul hP t102_120 ?_
                rw [show (4 : Int32) * nI A = nI (4 * A) by rw [show (4 : Int32) = nI 4 from rfl, pk_mul]]
                refine s_iload_n hP t102_121 rfl ?_
                refine s_iadd hP t102_122 ?_
                rw [nI_add]
                refine s_istore_8 hP t102_123 (by exact rfl) ?_
                refine s_aload_n hP t102_125 rfl ?_
                refine s_getfield hP t102_126 rfl rfl ?_
                refine s_iload hP t102_129 rfl ?_
                refine s_iload_n hP t102_131 rfl ?_
                refine s_castore hP t102_132 rfl (vp_in_nI (by omega) (by decide)) ?_
                rw [nI_clamp (by omega), mb_sh q67]
                refine s_aload_n hP t102_133 rfl ?_
                refine s_getfield hP t102_134 rfl rfl ?_
                refine s_iload hP t102_137 rfl ?_
                refine s_iload hP t102_139 rfl ?_
                refine s_iastore hP t102_141 rfl (vp_in_nI (by omega) (by decide)) ?_
                rw [nI_clamp (by omega)]
                refine s_aload_n hP t102_142 rfl ?_
                refine s_getfield hP t102_143 rfl rfl ?_
                refine s_iload hP t102_146 rfl ?_
                refine s_iload hP t102_148 rfl ?_
                refine s_iastore hP t102_150 rfl (vp_in_nI (by omega) (by decide)) ?_
                rw [nI_clamp (by omega)]
                refine s_aload_n hP t102_151 rfl ?_
                refine s_invokevirtual (bc' := 0) (bs' := 0) hP t102_152 rfl rfl rfl rfl rfl ?_
                refine sp100 (ma := mb_put ma (4 * A + C) z r l) (ms := am_u1 ms 15 0) (fun g u v hg hu hv => ?_)
                exact at155 A C hA hC rfl rfl q67 q77 q89 q98 g u v hg hu hv
              · exact absurd (show (0 : Int32) ≤ 0 by decide) q113
            · refine s_iconst (v := 3) hP t102_101 (by decide) ?_
              refine s_goto hP t102_102 ?_
              refine s_putfield hP t102_106 rfl rfl rfl rfl ?_
              refine s_aload_n hP t102_109 rfl ?_
              refine s_getfield hP t102_110 rfl rfl ?_
              refine s_if_le hP t102_113 (fun q113 => ?_) (fun q113 => ?_)
              · exact absurd q113 (show ¬ (3 : Int32) ≤ 0 by decide)
              · refine s_iconst (v := 0) hP t102_116 (by decide) ?_
                refine s_ireturn hP t102_117 rfl rfl ?_
                exact k3 q58 q67 q77 q89 q98
          · refine s_iconst (v := 2) hP t102_92 (by decide) ?_
            refine s_goto hP t102_93 ?_
            refine s_putfield hP t102_106 rfl rfl rfl rfl ?_
            refine s_aload_n hP t102_109 rfl ?_
            refine s_getfield hP t102_110 rfl rfl ?_
            refine s_if_le hP t102_113 (fun q113 => ?_) (fun q113 => ?_)
            · exact absurd q113 (show ¬ (2 : Int32) ≤ 0 by decide)
            · refine s_iconst (v := 0) hP t102_116 (by decide) ?_
              refine s_ireturn hP t102_117 rfl rfl ?_
              exact k2 q58 (by rw [q89]; simp)
    · refine s_iconst (v := 1) hP t102_61 (by decide) ?_
      refine s_goto hP t102_62 ?_
      refine s_putfield hP t102_106 rfl rfl rfl rfl ?_
      refine s_aload_n hP t102_109 rfl ?_
      refine s_getfield hP t102_110 rfl rfl ?_
      refine s_if_le hP t102_113 (fun q113 => ?_) (fun q113 => ?_)
      · exact absurd q113 (show ¬ (1 : Int32) ≤ 0 by decide)
      · refine s_iconst (v := 0) hP t102_116 (by decide) ?_
        refine s_ireturn hP t102_117 rfl rfl ?_
        exact k1 q58
  have at25 : P 25 [some (.ref 39), some (.int x), some (.int y), some (.int z), some (.int r), some (.int l), some (.int (am_b (mi_shape z))), none, none, none, none] [] (am_W ha hz a1 s1 t1 a2 s2 t2 al ma ms mt ol od) 0 0 := by
    refine s_iload_n hP t102_25 rfl ?_
    refine s_iconst (v := 2) hP t102_26 (by decide) ?_
    refine s_icmp_eq hP t102_27 (fun q27 => ?_) (fun q27 => ?_)
    · refine s_iconst (v := 1) hP t102_45 (by decide) ?_
      refine s_goto hP t102_46 ?_
      refine s_istore_7 hP t102_50 (by exact rfl) ?_
      rw [show (1 : Int32) = am_b (decide (x = 2) || decide (z = if x = 0 then 101 else 98)) by rw [decide_eq_true q27]; rfl]
      exact at52
    · refine s_iload_n hP t102_30 rfl ?_
      refine s_iload_n hP t102_31 rfl ?_
      refine s_if_ne hP t102_32 (fun q32 => ?_) (fun q32 => ?_)
      · refine s_bipush (v := 98) hP t102_40 (by decide) ?_
        refine s_icmp_ne hP t102_42 (fun q42 => ?_) (fun q42 => ?_)
        · refine s_iconst (v := 0) hP t102_49 (by decide) ?_
          refine s_istore_7 hP t102_50 (by exact rfl) ?_
          rw [show (0 : Int32) = am_b (decide (x = 2) || decide (z = if x = 0 then 101 else 98)) by rw [decide_eq_false q27, if_neg q32, decide_eq_false q42]; rfl]
          exact at52
        · refine s_iconst (v := 1) hP t102_45 (by decide) ?_
          refine s_goto hP t102_46 ?_
          refine s_istore_7 hP t102_50 (by exact rfl) ?_
          rw [show (1 : Int32) = am_b (decide (x = 2) || decide (z = if x = 0 then 101 else 98)) by rw [if_neg q32, decide_eq_true q42, Bool.or_true]; rfl]
          exact at52
      · refine s_bipush (v := 101) hP t102_35 (by decide) ?_
        refine s_goto hP t102_37 ?_
        refine s_icmp_ne hP t102_42 (fun q42 => ?_) (fun q42 => ?_)
        · refine s_iconst (v := 0) hP t102_49 (by decide) ?_
          refine s_istore_7 hP t102_50 (by exact rfl) ?_
          rw [show (0 : Int32) = am_b (decide (x = 2) || decide (z = if x = 0 then 101 else 98)) by rw [decide_eq_false q27, if_pos q32, decide_eq_false q42]; rfl]
          exact at52
        · refine s_iconst (v := 1) hP t102_45 (by decide) ?_
          refine s_goto hP t102_46 ?_
          refine s_istore_7 hP t102_50 (by exact rfl) ?_
          rw [show (1 : Int32) = am_b (decide (x = 2) || decide (z = if x = 0 then 101 else 98)) by rw [if_pos q32, decide_eq_true q42, Bool.or_true]; rfl]
          exact at52
  refine s_iload_n hP t102_0 rfl ?_
  refine s_bipush (v := 101) hP t102_1 (by decide) ?_
  refine s_icmp_eq hP t102_3 (fun q3 => ?_) (fun q3 => ?_)
  · refine s_iconst (v := 1) hP t102_18 (by decide) ?_
    refine s_goto hP t102_19 ?_
    refine s_istore_6 hP t102_23 (by exact rfl) ?_
    rw [show (1 : Int32) = am_b (mi_shape z) by rw [mi_shape, decide_eq_true q3]; rfl]
    exact at25
  · refine s_iload_n hP t102_6 rfl ?_
    refine s_bipush (v := 98) hP t102_7 (by decide) ?_
    refine s_icmp_eq hP t102_9 (fun q9 => ?_) (fun q9 => ?_)
    · refine s_iconst (v := 1) hP t102_18 (by decide) ?_
      refine s_goto hP t102_19 ?_
      refine s_istore_6 hP t102_23 (by exact rfl) ?_
      rw [show (1 : Int32) = am_b (mi_shape z) by rw [mi_shape, decide_eq_true q9, Bool.or_true]; rfl]
      exact at25
    · refine s_iload_n hP t102_12 rfl ?_
      refine s_bipush (v := 118) hP t102_13 (by decide) ?_
      refine s_icmp_ne hP t102_15 (fun q15 => ?_) (fun q15 => ?_)
      · refine s_iconst (v := 0) hP t102_22 (by decide) ?_
        refine s_istore_6 hP t102_23 (by exact rfl) ?_
        rw [show (0 : Int32) = am_b (mi_shape z) by rw [mi_shape, decide_eq_false q3, decide_eq_false q9, decide_eq_false q15]; rfl]
        exact at25
      · refine s_iconst (v := 1) hP t102_18 (by decide) ?_
        refine s_goto hP t102_19 ?_
        refine s_istore_6 hP t102_23 (by exact rfl) ?_
        rw [show (1 : Int32) = am_b (mi_shape z) by rw [mi_shape, decide_eq_true q15, Bool.or_true]; rfl]
        exact at25
set_option maxHeartbeats 4000000 in
theorem xp1s {d : Nat} {K : xm_K} {ha : Nat → Nat → Int32} {hz : Int32} {a1 : Nat → Nat → Int32} {s1 : Nat → Int32} {t1 : UInt32} {a2 : Nat → Nat → Int32} {s2 : Nat → Int32} {t2 : UInt32} {al : Int32} {ma : Nat → Nat → Int32} {ms : Nat → Int32} {mt : UInt32} {ol : Nat → Int64} {od : Nat → UInt64} {x y z r l : Int32} (kin : ∀ A C, A < 3 → C < 4 → x = nI A → y = nI C → mi_shape z = true → mi_iw r 0 3 = true → mi_iw l 1 999 = true → mi_takes x z = true → ∀ g u v : Nat → Int32, (∀ j, j < 72 → g j = 65535) → (∀ j, j < 12 → u j = 0) → (∀ j, j < 8 → v j = 0) → K (.inl (some (.int (nI (mr_cnt 4 (fun j => mi_fil (upd (ha 0) (4 * A + C) z) (nI (4 * A + 0) + nI j))))))) (am_W (am_u2 (am_u2 (am_u2 ha 0 (upd (ha 0) (4 * A + C) z)) 1 (upd (ha 1) (4 * A + C) r)) 2 (upd (ha 2) (4 * A + C) l)) hz (mc_a0 a1 g u v) (mc_s0 s1) FP.fconst0 a2 s2 t2 45 ma ms mt ol od)) (k0 : mi_slot x y = false → K (.inr 0) (am_W ha hz a1 s1 t1 a2 s2 t2 al ma ms mt ol od)) (k1 : mi_slot x y = true → (mi_shape z && (mi_iw r 0 3 && mi_iw l 1 999)) = false → K (.inr 1) (am_W ha hz a1 s1 t1 a2 s2 t2 al ma ms mt ol od)) (k2 : mi_slot x y = true → mi_shape z = true → mi_iw r 0 3 = true → mi_iw l 1 999 = true → mi_takes x z = false → K (.inr 2) (am_W ha hz a1 s1 t1 a2 s2 t2 al ma ms mt ol od)) : xm_Run (d + 10) 1 [.ref 0, .int x, .int y, .int z, .int r, .int l] (am_W ha hz a1 s1 t1 a2 s2 t2 al ma ms mt ol od) K := by
  refine ⟨rfl, by omega, fun P hm hP => ?_⟩
  show P 0 [some (.ref 0), some (.int x), some (.int y), some (.int z), some (.int r), some (.int l)] [] _ 1 6
  refine x_iload_n hP u1_0 rfl ?_
  refine x_iload_n hP u1_1 rfl ?_
  refine x_invokestatic (bc' := 1) (bs' := 6) hP u1_2 rfl rfl rfl rfl rfl ?_
  refine sp87 ?_
  refine x_zne hP u1_5 (fun q5 => ?_) (fun q5 => ?_)
  · obtain ⟨A, C, hA, hC, rfl, rfl⟩ := mi_slot_nI q5
    refine x_iload_n hP u1_18 rfl ?_
    refine x_invokestatic (bc' := 1) (bs' := 6) hP u1_19 rfl rfl rfl rfl rfl ?_
    refine sp89 ?_
    refine x_zne hP u1_22 (fun q22 => ?_) (fun q22 => ?_)
    · refine x_iload hP u1_35 rfl ?_
      refine x_iconst (v := 0) hP u1_37 (by decide) ?_
      refine x_iconst (v := 3) hP u1_38 (by decide) ?_
      refine x_invokestatic (bc' := 1) (bs' := 6) hP u1_39 rfl rfl rfl rfl rfl ?_
      refine sp84 ?_
      refine x_zeq hP u1_42 (fun q42 => ?_) (fun q42 => ?_)
      · refine x_throw (bc' := 0) (bs' := 0) hP u1_57 rfl rfl ?_
        exact k1 q5 (by rw [q22, q42]; rfl)
      · refine x_iload hP u1_45 rfl ?_
        refine x_iconst (v := 1) hP u1_47 (by decide) ?_
        refine x_sipush (v := 999) hP u1_48 (by decide) ?_
        refine x_invokestatic (bc' := 1) (bs' := 6) hP u1_51 rfl rfl rfl rfl rfl ?_
        refine sp84 ?_
        refine x_zne hP u1_54 (fun q54 => ?_) (fun q54 => ?_)
        · refine x_iload_n hP u1_67 rfl ?_
          refine x_iload_n hP u1_68 rfl ?_
          refine x_invokestatic (bc' := 1) (bs' := 6) hP u1_69 rfl rfl rfl rfl rfl ?_
          refine sp90 ?_
          refine x_zne hP u1_72 (fun q72 => ?_) (fun q72 => ?_)
          · refine x_aload_n hP u1_85 rfl ?_
            refine x_getfield hP u1_86 rfl rfl ?_
            refine x_getfield hP u1_89 rfl rfl ?_
            refine x_iload_n hP u1_92 rfl ?_
            refine x_iload_n hP u1_93 rfl ?_
            refine x_invokestatic (bc' := 1) (bs' := 6) hP u1_94 rfl rfl rfl rfl rfl ?_
            refine sp88 ?_
            rw [mi_slotN]
            refine x_iload_n hP u1_97 rfl ?_
            refine x_iload hP u1_98 rfl ?_
            refine x_iload hP u1_100 rfl ?_
            refine x_invokevirtual (bc' := 1) (bs' := 6) hP u1_102 rfl rfl rfl rfl rfl ?_
            refine sp57 (by omega) q22 ?_
            refine x_aload_n hP u1_105 rfl ?_
            refine x_invokevirtual (bc' := 1) (bs' := 6) hP u1_106 rfl rfl rfl rfl rfl ?_
            refine sp83 (ha := (am_u2 (am_u2 (am_u2 ha 0 (upd (ha 0) (4 * A + C) z)) 1 (upd (ha 1) (4 * A + C) r)) 2 (upd (ha 2) (4 * A + C) l))) (fun g u v hg hu hv => ?_)
            refine x_aload_n hP u1_109 rfl ?_
            refine x_getfield hP u1_110 rfl rfl ?_
            refine x_getfield hP u1_113 rfl rfl ?_
            refine x_iload_n hP u1_116 rfl ?_
            refine x_iconst (v := 0) hP u1_117 (by decide) ?_
            refine x_invokestatic (bc' := 1) (bs' := 6) hP u1_118 rfl rfl rfl rfl rfl ?_
            refine sp88 ?_
            rw [show (4 : Int32) * nI A + 0 = nI (4 * A + 0) from mi_slotN (A := A) (B := 0)]
            refine x_iconst (v := 4) hP u1_121 (by decide) ?_
            refine x_invokevirtual (bc' := 1) (bs' := 6) hP u1_122 rfl rfl rfl rfl rfl ?_
            refine sp59 (f1 := upd (ha 0) (4 * A + C) z) (N := 4) rfl rfl rfl (by decide) ?_
            refine x_ireturn hP u1_125 rfl rfl ?_
            exact kin A C hA hC rfl rfl q22 q42 q54 q72 g u v hg hu hv
          · refine x_throw (bc' := 0) (bs' := 0) hP u1_75 rfl rfl ?_
            exact k2 q5 q22 q42 q54 q72
        · refine x_throw (bc' := 0) (bs' := 0) hP u1_57 rfl rfl ?_
          exact k1 q5 (by rw [q22, q42, q54]; rfl)
    · refine x_throw (bc' := 0) (bs' := 0) hP u1_25 rfl rfl ?_
      exact k1 q5 (by rw [q22]; rfl)
  · refine x_throw (bc' := 0) (bs' := 0) hP u1_8 rfl rfl ?_
    exact k0 q5
set_option maxHeartbeats 4000000 in
theorem xh14s {d : Nat} {K : xm_K} {ha : Nat → Nat → Int32} {hz : Int32} {a1 : Nat → Nat → Int32} {s1 : Nat → Int32} {t1 : UInt32} {a2 : Nat → Nat → Int32} {s2 : Nat → Int32} {t2 : UInt32} {al : Int32} {ma : Nat → Nat → Int32} {ms : Nat → Int32} {mt : UInt32} {ol : Nat → Int64} {od : Nat → UInt64} {x y z r l : Int32} (kin : ∀ A C, A < 3 → C < 4 → x = nI A → y = nI C → mi_shape z = true → mi_iw r 0 3 = true → mi_iw l 1 999 = true → mi_takes x z = true → ∀ g u v : Nat → Int32, (∀ j, j < 72 → g j = 65535) → (∀ j, j < 12 → u j = 0) → (∀ j, j < 8 → v j = 0) → K (.inl (some (.int 0))) (am_W (am_u2 (am_u2 (am_u2 ha 0 (upd (ha 0) (4 * A + C) z)) 1 (upd (ha 1) (4 * A + C) r)) 2 (upd (ha 2) (4 * A + C) l)) hz (mc_a0 a1 g u v) (mc_s0 s1) FP.fconst0 a2 s2 t2 45 ma ms mt (vp_updL ol 0 ((nI (mr_cnt 4 (fun j => mi_fil (upd (ha 0) (4 * A + C) z) (nI (4 * A + 0) + nI j))))).toInt64) od)) (k0 : mi_slot x y = false → K (.inl (some (.int 1))) (am_W ha hz a1 s1 t1 a2 s2 t2 al ma ms mt ol od)) (k1 : mi_slot x y = true → (mi_shape z && (mi_iw r 0 3 && mi_iw l 1 999)) = false → K (.inl (some (.int 2))) (am_W ha hz a1 s1 t1 a2 s2 t2 al ma ms mt ol od)) (k2 : mi_slot x y = true → mi_shape z = true → mi_iw r 0 3 = true → mi_iw l 1 999 = true → mi_takes x z = false → K (.inl (some (.int 3))) (am_W ha hz a1 s1 t1 a2 s2 t2 al ma ms mt ol od)) : xm_Run (d + 11) 14 [.ref 0, .int x, .int y, .int z, .int r, .int l, .ref 55] (am_W ha hz a1 s1 t1 a2 s2 t2 al ma ms mt ol od) K := by
  refine ⟨rfl, by omega, fun P hm hP => ?_⟩
  show P 0 [some (.ref 0), some (.int x), some (.int y), some (.int z), some (.int r), some (.int l), some (.ref 55), none] [] _ 1 6
  refine x_aload hP u14_0 rfl ?_
  refine x_iconst (v := 0) hP u14_2 (by decide) ?_
  refine x_aload_n hP u14_3 rfl ?_
  refine x_iload_n hP u14_4 rfl ?_
  refine x_iload_n hP u14_5 rfl ?_
  refine x_iload_n hP u14_6 rfl ?_
  refine x_iload hP u14_7 rfl ?_
  refine x_iload hP u14_9 rfl ?_
  refine x_callV (bc' := 0) (bs' := 0) hP u14_11 rfl rfl rfl rfl rfl ?_
  refine xp1s ?_ k0 k1 k2
  intro z1 z2 z3 z4 z5 z6 z7 z8 z9 z10 z11 z12 z13 z14 z15 z16
  refine x_i2l hP u14_14 ?_
  refine x_lastore hP u14_15 rfl (vp_in_nI (n := 0) (by decide) (by decide)) ?_
  refine x_goto hP u14_16 ?_
  refine x_iconst (v := 0) hP u14_31 (by decide) ?_
  refine x_ireturn hP u14_32 rfl rfl ?_
  exact kin z1 z2 z3 z4 z5 z6 z7 z8 z9 z10 z11 z12 z13 z14 z15 z16
set_option maxHeartbeats 4000000 in
theorem xw_164 {P : am_P} (hm : am_mono P) {L : Nat} {xs : Nat → Int32} (hP : xm_HP (some (L, xs)) 15 27 xl_K P) {ha : Nat → Nat → Int32} {hz : Int32} {a1 : Nat → Nat → Int32} {s1 : Nat → Int32} {t1 : UInt32} {a2 : Nat → Nat → Int32} {s2 : Nat → Int32} {t2 : UInt32} {al : Int32} {ma : Nat → Nat → Int32} {ms : Nat → Int32} {mt : UInt32} {ol : Nat → Int64} {od : Nat → UInt64} {g : Nat} (hg : 6 * g + 6 ≤ L) (hL : L ≤ 3072) (hI : lw_I g ha hz a1 s1 t1 al ma ms mt) {bc bs : Nat} (hbc : 512 - g ≤ bc) (hbs : 6 * (512 - g) ≤ bs) (hn : ∀ (ha : Nat → Nat → Int32) (hz : Int32) (a1 : Nat → Nat → Int32) (s1 : Nat → Int32) (t1 : UInt32) (a2 : Nat → Nat → Int32) (s2 : Nat → Int32) (t2 : UInt32) (al : Int32) (ma : Nat → Nat → Int32) (ms : Nat → Int32) (mt : UInt32) (ol : Nat → Int64) (od : Nat → UInt64), lw_I (g + 1) ha hz a1 s1 t1 al ma ms mt → ∀ bc bs : Nat, 511 - g ≤ bc → 6 * (511 - g) ≤ bs → P 28 [some (.ref 1500), some (.ref 0), some (.ref 39), some (.ref 55), some (.ref 56), some (.int (nI (6 * (g + 1)))), none, none, none, none] [] (am_W ha hz a1 s1 t1 a2 s2 t2 al ma ms mt ol od) bc bs) : P 164 [some (.ref 1500), some (.ref 0), some (.ref 39), some (.ref 55), some (.ref 56), some (.int (nI (6 * g))), none, none, none, none] [] (am_W ha hz a1 s1 t1 a2 s2 t2 al ma ms mt ol od) bc bs := by
  obtain ⟨T, M, D, S, hH, hh, hr, hWD, hS, hE, hD, hV, e8, e9, e10, et, eu, ev, ep, hB⟩ := lw_both hI
  obtain ⟨-, -, -, -, -, -, -, -, -, -, -, hal, hnar, -⟩ := id hI
  refine x_aload_n hP u27_164 rfl ?_
  refine x_aload_n hP u27_165 rfl ?_
  refine x_iload hP u27_166 rfl ?_
  refine x_iconst (v := 1) hP u27_168 (by decide) ?_
  refine x_iadd hP u27_169 ?_
  rw [show nI (6 * g) + 1 = nI (6 * g + 1) from nI_add (6 * g) 1]
  refine x_sld hP u27_170 (vp_in_nI (by omega) (by omega)) ?_
  rw [nI_clamp (by omega)]
  refine x_aload_n hP u27_171 rfl ?_
  refine x_iload hP u27_172 rfl ?_
  refine x_iconst (v := 2) hP u27_174 (by decide) ?_
  refine x_iadd hP u27_175 ?_
  rw [show nI (6 * g) + 2 = nI (6 * g + 2) from nI_add (6 * g) 2]
  refine x_sld hP u27_176 (vp_in_nI (by omega) (by omega)) ?_
  rw [nI_clamp (by omega)]
  refine x_aload_n hP u27_177 rfl ?_
  refine x_iload hP u27_178 rfl ?_
  refine x_iconst (v := 3) hP u27_180 (by decide) ?_
  refine x_iadd hP u27_181 ?_
  rw [show nI (6 * g) + 3 = nI (6 * g + 3) from nI_add (6 * g) 3]
  refine x_sld hP u27_182 (vp_in_nI (by omega) (by omega)) ?_
  rw [nI_clamp (by omega)]
  refine x_i2c hP u27_183 ?_
  refine x_aload_n hP u27_184 rfl ?_
  refine x_iload hP u27_185 rfl ?_
  refine x_iconst (v := 4) hP u27_187 (by decide) ?_
  refine x_iadd hP u27_188 ?_
  rw [show nI (6 * g) + 4 = nI (6 * g + 4) from nI_add (6 * g) 4]
  refine x_sld hP u27_189 (vp_in_nI (by omega) (by omega)) ?_
  rw [nI_clamp (by omega)]
  refine x_aload_n hP u27_190 rfl ?_
  refine x_iload hP u27_191 rfl ?_
  refine x_iconst (v := 5) hP u27_193 (by decide) ?_
  refine x_iadd hP u27_194 ?_
  rw [show nI (6 * g) + 5 = nI (6 * g + 5) from nI_add (6 * g) 5]
  refine x_sld hP u27_195 (vp_in_nI (by omega) (by omega)) ?_
  rw [nI_clamp (by omega)]
  refine x_aload_n hP u27_196 rfl ?_
  refine x_callS (bc' := bc - 1) (bs' := bs - 6) hP u27_197 rfl rfl (by show bc = bc - 1 + 1; omega) (by show bs = bs - 6 + 6; omega) ?_
  refine xh14s (x := xs (6 * g + 1)) (y := xs (6 * g + 2)) (z := ((xs (6 * g + 3)).toUInt32 % 65536).toInt32) (r := xs (6 * g + 4)) (l := xs (6 * g + 5)) ?_ ?_ ?_ ?_
  · intro A C hA hC hx hy hsh hrr hll htk g9 u v hg9 hu hv
    refine x_istore_6 hP u27_200 (by exact rfl) ?_
    refine x_aload_n hP u27_202 rfl ?_
    refine x_aload_n hP u27_203 rfl ?_
    refine x_iload hP u27_204 rfl ?_
    refine x_iconst (v := 1) hP u27_206 (by decide) ?_
    refine x_iadd hP u27_207 ?_
    rw [show nI (6 * g) + 1 = nI (6 * g + 1) from nI_add (6 * g) 1]
    refine x_sld hP u27_208 (vp_in_nI (by omega) (by omega)) ?_
    rw [nI_clamp (by omega)]
    refine x_aload_n hP u27_209 rfl ?_
    refine x_iload hP u27_210 rfl ?_
    refine x_iconst (v := 2) hP u27_212 (by decide) ?_
    refine x_iadd hP u27_213 ?_
    rw [show nI (6 * g) + 2 = nI (6 * g + 2) from nI_add (6 * g) 2]
    refine x_sld hP u27_214 (vp_in_nI (by omega) (by omega)) ?_
    rw [nI_clamp (by omega)]
    refine x_aload_n hP u27_215 rfl ?_
    refine x_iload hP u27_216 rfl ?_
    refine x_iconst (v := 3) hP u27_218 (by decide) ?_
    refine x_iadd hP u27_219 ?_
    rw [show nI (6 * g) + 3 = nI (6 * g + 3) from nI_add (6 * g) 3]
    refine x_sld hP u27_220 (vp_in_nI (by omega) (by omega)) ?_
    rw [nI_clamp (by omega)]
    refine x_i2c hP u27_221 ?_
    refine x_aload_n hP u27_222 rfl ?_
    refine x_iload hP u27_223 rfl ?_
    refine x_iconst (v := 4) hP u27_225 (by decide) ?_
    refine x_iadd hP u27_226 ?_
    rw [show nI (6 * g) + 4 = nI (6 * g + 4) from nI_add (6 * g) 4]
    refine x_sld hP u27_227 (vp_in_nI (by omega) (by omega)) ?_
    rw [nI_clamp (by omega)]
    refine x_aload_n hP u27_228 rfl ?_
    refine x_iload hP u27_229 rfl ?_
    refine x_iconst (v := 5) hP u27_231 (by decide) ?_
    refine x_iadd hP u27_232 ?_
    rw [show nI (6 * g) + 5 = nI (6 * g + 5) from nI_add (6 * g) 5]
    refine x_sld hP u27_233 (vp_in_nI (by omega) (by omega)) ?_
    rw [nI_clamp (by omega)]
    refine x_invokevirtual (bc' := bc - 1) (bs' := bs - 6) hP u27_234 rfl rfl rfl rfl rfl ?_
    have hlw := lw_put (c := 4 * A + C) (l := xs (6 * g + 5)) (by omega) hsh hrr hH hh
    refine sp102s (x := xs (6 * g + 1)) (y := xs (6 * g + 2)) (z := ((xs (6 * g + 3)).toUInt32 % 65536).toInt32) (r := xs (6 * g + 4)) (l := xs (6 * g + 5)) (fun A2 C2 hA2 hC2 hx2 hy2 _ _ _ _ g2 u2 v2 hg2 hu2 hv2 => ?_) (fun h => absurd ((show mi_slot (xs (6 * g + 1)) (xs (6 * g + 2)) = true by rw [hx, hy]; exact lw_slot hA hC).symm.trans h) (by decide)) (fun _ h => ?_) (fun _ _ _ _ h => ?_)
    rotate_left
    · rw [hsh, hrr, hll] at h
      cases h
    · rw [(show (decide (xs (6 * g + 1) = 2) || decide (((xs (6 * g + 3)).toUInt32 % 65536).toInt32 = if xs (6 * g + 1) = 0 then 101 else 98)) = mi_takes (xs (6 * g + 1)) (((xs (6 * g + 3)).toUInt32 % 65536).toInt32) by rw [hx]; exact (lw_takes hA).symm), htk] at h
      cases h
    obtain rfl : A = A2 := (nI_inj (by omega) (by omega)).mp (hx.symm.trans hx2)
    obtain rfl : C = C2 := (nI_inj (by omega) (by omega)).mp (hy.symm.trans hy2)
    have hcn := lw_cnt (f := upd (ha 0) (4 * A + C) (((xs (6 * g + 3)).toUInt32 % 65536).toInt32)) (m := mb_put ma (4 * A + C) (((xs (6 * g + 3)).toUInt32 % 65536).toInt32) (xs (6 * g + 4)) (xs (6 * g + 5)) 0) hA (fun d hd => sh_45 (fun c hc => (hlw.2.2.2.1 c hc).1) hlw.1.2.2.2.1 hd)
    refine x_istore_7 hP u27_237 (by exact rfl) ?_
    refine x_aload_n hP u27_239 rfl ?_
    refine x_invokevirtual (bc' := bc - 1) (bs' := bs - 6) hP u27_240 rfl rfl rfl rfl rfl ?_
    refine sp96 ?_
    refine x_iload hP u27_243 rfl ?_
    refine x_icmp_eq hP u27_245 (fun q245 => ?_) (fun q245 => ?_)
    · refine x_iload hP u27_250 rfl ?_
      refine x_if_ne hP u27_252 (fun q252 => ?_) (fun q252 => ?_)
      · exact absurd rfl q252
      · refine x_aload_n hP u27_255 rfl ?_
        refine x_iconst (v := 0) hP u27_256 (by decide) ?_
        refine x_laload hP u27_257 rfl (vp_in_nI (n := 0) (by decide) (by decide)) ?_
        refine x_iload hP u27_258 rfl ?_
        refine x_i2l hP u27_260 ?_
        refine x_lcmp hP u27_261 ?_
        refine x_if_eq hP u27_262 (fun q262 => ?_) (fun q262 => ?_)
        · refine x_goto hP u27_267 ?_
          refine x_iinc_5 (v := 6) hP u27_1388 (by decide) (by exact rfl) ?_
          refine x_goto hP u27_1391 ?_
          rw [show nI (6 * g) + 6 = nI (6 * (g + 1)) from nI_add (6 * g) 6]
          refine hm _ _ _ _ _ _ _ (by repeat (first | exact am_le_nil | apply am_le_cons | apply am_le_none)) (hn _ _ _ _ _ _ _ _ _ _ _ _ _ _ (lw_begin hlw.1 hlw.2 hg9 hu hv hg2 hu2 hv2) _ _ (by omega) (by omega))
        · exact absurd (lw_cmp (by
            show (nI _).toInt64 = _
            rw [hcn])) q262
    · exact absurd rfl q245
  · intro hk
    refine x_istore_6 hP u27_200 (by exact rfl) ?_
    refine x_aload_n hP u27_202 rfl ?_
    refine x_aload_n hP u27_203 rfl ?_
    refine x_iload hP u27_204 rfl ?_
    refine x_iconst (v := 1) hP u27_206 (by decide) ?_
    refine x_iadd hP u27_207 ?_
    rw [show nI (6 * g) + 1 = nI (6 * g + 1) from nI_add (6 * g) 1]
    refine x_sld hP u27_208 (vp_in_nI (by omega) (by omega)) ?_
    rw [nI_clamp (by omega)]
    refine x_aload_n hP u27_209 rfl ?_
    refine x_iload hP u27_210 rfl ?_
    refine x_iconst (v := 2) hP u27_212 (by decide) ?_
    refine x_iadd hP u27_213 ?_
    rw [show nI (6 * g) + 2 = nI (6 * g + 2) from nI_add (6 * g) 2]
    refine x_sld hP u27_214 (vp_in_nI (by omega) (by omega)) ?_
    rw [nI_clamp (by omega)]
    refine x_aload_n hP u27_215 rfl ?_
    refine x_iload hP u27_216 rfl ?_
    refine x_iconst (v := 3) hP u27_218 (by decide) ?_
    refine x_iadd hP u27_219 ?_
    rw [show nI (6 * g) + 3 = nI (6 * g + 3) from nI_add (6 * g) 3]
    refine x_sld hP u27_220 (vp_in_nI (by omega) (by omega)) ?_
    rw [nI_clamp (by omega)]
    refine x_i2c hP u27_221 ?_
    refine x_aload_n hP u27_222 rfl ?_
    refine x_iload hP u27_223 rfl ?_
    refine x_iconst (v := 4) hP u27_225 (by decide) ?_
    refine x_iadd hP u27_226 ?_
    rw [show nI (6 * g) + 4 = nI (6 * g + 4) from nI_add (6 * g) 4]
    refine x_sld hP u27_227 (vp_in_nI (by omega) (by omega)) ?_
    rw [nI_clamp (by omega)]
    refine x_aload_n hP u27_228 rfl ?_
    refine x_iload hP u27_229 rfl ?_
    refine x_iconst (v := 5) hP u27_231 (by decide) ?_
    refine x_iadd hP u27_232 ?_
    rw [show nI (6 * g) + 5 = nI (6 * g + 5) from nI_add (6 * g) 5]
    refine x_sld hP u27_233 (vp_in_nI (by omega) (by omega)) ?_
    rw [nI_clamp (by omega)]
    refine x_invokevirtual (bc' := bc - 1) (bs' := bs - 6) hP u27_234 rfl rfl rfl rfl rfl ?_
    refine sp102s (x := xs (6 * g + 1)) (y := xs (6 * g + 2)) (z := ((xs (6 * g + 3)).toUInt32 % 65536).toInt32) (r := xs (6 * g + 4)) (l := xs (6 * g + 5)) (fun A C hA hC hx hy _ _ _ _ g2 u2 v2 hg2 hu2 hv2 => absurd ((show mi_slot (xs (6 * g + 1)) (xs (6 * g + 2)) = true by rw [hx, hy]; exact lw_slot hA hC).symm.trans hk) (by decide)) (fun _ => ?_) (fun h => absurd (h.symm.trans hk) (by decide)) (fun h => absurd (h.symm.trans hk) (by decide))
    refine x_istore_7 hP u27_237 (by exact rfl) ?_
    refine x_aload_n hP u27_239 rfl ?_
    refine x_invokevirtual (bc' := bc - 1) (bs' := bs - 6) hP u27_240 rfl rfl rfl rfl rfl ?_
    refine sp96 ?_
    refine x_iload hP u27_243 rfl ?_
    refine x_icmp_eq hP u27_245 (fun q245 => ?_) (fun q245 => ?_)
    · refine x_iload hP u27_250 rfl ?_
      refine x_if_ne hP u27_252 (fun q252 => ?_) (fun q252 => ?_)
      · refine x_goto hP u27_267 ?_
        refine x_iinc_5 (v := 6) hP u27_1388 (by decide) (by exact rfl) ?_
        refine x_goto hP u27_1391 ?_
        rw [show nI (6 * g) + 6 = nI (6 * (g + 1)) from nI_add (6 * g) 6]
        refine hm _ _ _ _ _ _ _ (by repeat (first | exact am_le_nil | apply am_le_cons | apply am_le_none)) (hn _ _ _ _ _ _ _ _ _ _ _ _ _ _ (lw_I_15 hI) _ _ (by omega) (by omega))
      · exact absurd q252 (by decide)
    · exact absurd rfl q245
  · intro hsl hk
    refine x_istore_6 hP u27_200 (by exact rfl) ?_
    refine x_aload_n hP u27_202 rfl ?_
    refine x_aload_n hP u27_203 rfl ?_
    refine x_iload hP u27_204 rfl ?_
    refine x_iconst (v := 1) hP u27_206 (by decide) ?_
    refine x_iadd hP u27_207 ?_
    rw [show nI (6 * g) + 1 = nI (6 * g + 1) from nI_add (6 * g) 1]
    refine x_sld hP u27_208 (vp_in_nI (by omega) (by omega)) ?_
    rw [nI_clamp (by omega)]
    refine x_aload_n hP u27_209 rfl ?_
    refine x_iload hP u27_210 rfl ?_
    refine x_iconst (v := 2) hP u27_212 (by decide) ?_
    refine x_iadd hP u27_213 ?_
    rw [show nI (6 * g) + 2 = nI (6 * g + 2) from nI_add (6 * g) 2]
    refine x_sld hP u27_214 (vp_in_nI (by omega) (by omega)) ?_
    rw [nI_clamp (by omega)]
    refine x_aload_n hP u27_215 rfl ?_
    refine x_iload hP u27_216 rfl ?_
    refine x_iconst (v := 3) hP u27_218 (by decide) ?_
    refine x_iadd hP u27_219 ?_
    rw [show nI (6 * g) + 3 = nI (6 * g + 3) from nI_add (6 * g) 3]
    refine x_sld hP u27_220 (vp_in_nI (by omega) (by omega)) ?_
    rw [nI_clamp (by omega)]
    refine x_i2c hP u27_221 ?_
    refine x_aload_n hP u27_222 rfl ?_
    refine x_iload hP u27_223 rfl ?_
    refine x_iconst (v := 4) hP u27_225 (by decide) ?_
    refine x_iadd hP u27_226 ?_
    rw [show nI (6 * g) + 4 = nI (6 * g + 4) from nI_add (6 * g) 4]
    refine x_sld hP u27_227 (vp_in_nI (by omega) (by omega)) ?_
    rw [nI_clamp (by omega)]
    refine x_aload_n hP u27_228 rfl ?_
    refine x_iload hP u27_229 rfl ?_
    refine x_iconst (v := 5) hP u27_231 (by decide) ?_
    refine x_iadd hP u27_232 ?_
    rw [show nI (6 * g) + 5 = nI (6 * g + 5) from nI_add (6 * g) 5]
    refine x_sld hP u27_233 (vp_in_nI (by omega) (by omega)) ?_
    rw [nI_clamp (by omega)]
    refine x_invokevirtual (bc' := bc - 1) (bs' := bs - 6) hP u27_234 rfl rfl rfl rfl rfl ?_
    refine sp102s (x := xs (6 * g + 1)) (y := xs (6 * g + 2)) (z := ((xs (6 * g + 3)).toUInt32 % 65536).toInt32) (r := xs (6 * g + 4)) (l := xs (6 * g + 5)) (fun A C hA hC hx hy h1 h2 h3 _ g2 u2 v2 hg2 hu2 hv2 => ?_) (fun h => absurd (hsl.symm.trans h) (by decide)) (fun _ _ => ?_) (fun _ h1 h2 h3 h => ?_)
    · rw [h1, h2, h3] at hk
      cases hk
    rotate_left
    · rw [h1, h2, h3] at hk
      cases hk
    refine x_istore_7 hP u27_237 (by exact rfl) ?_
    refine x_aload_n hP u27_239 rfl ?_
    refine x_invokevirtual (bc' := bc - 1) (bs' := bs - 6) hP u27_240 rfl rfl rfl rfl rfl ?_
    refine sp96 ?_
    refine x_iload hP u27_243 rfl ?_
    refine x_icmp_eq hP u27_245 (fun q245 => ?_) (fun q245 => ?_)
    · refine x_iload hP u27_250 rfl ?_
      refine x_if_ne hP u27_252 (fun q252 => ?_) (fun q252 => ?_)
      · refine x_goto hP u27_267 ?_
        refine x_iinc_5 (v := 6) hP u27_1388 (by decide) (by exact rfl) ?_
        refine x_goto hP u27_1391 ?_
        rw [show nI (6 * g) + 6 = nI (6 * (g + 1)) from nI_add (6 * g) 6]
        refine hm _ _ _ _ _ _ _ (by repeat (first | exact am_le_nil | apply am_le_cons | apply am_le_none)) (hn _ _ _ _ _ _ _ _ _ _ _ _ _ _ (lw_I_15 hI) _ _ (by omega) (by omega))
      · exact absurd q252 (by decide)
    · exact absurd rfl q245
  · intro hsl hsh hrr hll htk
    refine x_istore_6 hP u27_200 (by exact rfl) ?_
    refine x_aload_n hP u27_202 rfl ?_
    refine x_aload_n hP u27_203 rfl ?_
    refine x_iload hP u27_204 rfl ?_
    refine x_iconst (v := 1) hP u27_206 (by decide) ?_
    refine x_iadd hP u27_207 ?_
    rw [show nI (6 * g) + 1 = nI (6 * g + 1) from nI_add (6 * g) 1]
    refine x_sld hP u27_208 (vp_in_nI (by omega) (by omega)) ?_
    rw [nI_clamp (by omega)]
    refine x_aload_n hP u27_209 rfl ?_
    refine x_iload hP u27_210 rfl ?_
    refine x_iconst (v := 2) hP u27_212 (by decide) ?_
    refine x_iadd hP u27_213 ?_
    rw [show nI (6 * g) + 2 = nI (6 * g + 2) from nI_add (6 * g) 2]
    refine x_sld hP u27_214 (vp_in_nI (by omega) (by omega)) ?_
    rw [nI_clamp (by omega)]
    refine x_aload_n hP u27_215 rfl ?_
    refine x_iload hP u27_216 rfl ?_
    refine x_iconst (v := 3) hP u27_218 (by decide) ?_
    refine x_iadd hP u27_219 ?_
    rw [show nI (6 * g) + 3 = nI (6 * g + 3) from nI_add (6 * g) 3]
    refine x_sld hP u27_220 (vp_in_nI (by omega) (by omega)) ?_
    rw [nI_clamp (by omega)]
    refine x_i2c hP u27_221 ?_
    refine x_aload_n hP u27_222 rfl ?_
    refine x_iload hP u27_223 rfl ?_
    refine x_iconst (v := 4) hP u27_225 (by decide) ?_
    refine x_iadd hP u27_226 ?_
    rw [show nI (6 * g) + 4 = nI (6 * g + 4) from nI_add (6 * g) 4]
    refine x_sld hP u27_227 (vp_in_nI (by omega) (by omega)) ?_
    rw [nI_clamp (by omega)]
    refine x_aload_n hP u27_228 rfl ?_
    refine x_iload hP u27_229 rfl ?_
    refine x_iconst (v := 5) hP u27_231 (by decide) ?_
    refine x_iadd hP u27_232 ?_
    rw [show nI (6 * g) + 5 = nI (6 * g + 5) from nI_add (6 * g) 5]
    refine x_sld hP u27_233 (vp_in_nI (by omega) (by omega)) ?_
    rw [nI_clamp (by omega)]
    refine x_invokevirtual (bc' := bc - 1) (bs' := bs - 6) hP u27_234 rfl rfl rfl rfl rfl ?_
    refine sp102s (x := xs (6 * g + 1)) (y := xs (6 * g + 2)) (z := ((xs (6 * g + 3)).toUInt32 % 65536).toInt32) (r := xs (6 * g + 4)) (l := xs (6 * g + 5)) (fun A C hA hC hx hy h1 h2 h3 h4 g2 u2 v2 hg2 hu2 hv2 => ?_) (fun h => absurd (hsl.symm.trans h) (by decide)) (fun _ h => ?_) (fun _ _ _ _ _ => ?_)
    · rw [(show (decide (xs (6 * g + 1) = 2) || decide (((xs (6 * g + 3)).toUInt32 % 65536).toInt32 = if xs (6 * g + 1) = 0 then 101 else 98)) = mi_takes (xs (6 * g + 1)) (((xs (6 * g + 3)).toUInt32 % 65536).toInt32) by rw [hx]; exact (lw_takes hA).symm), htk] at h4
      cases h4
    · rw [hsh, hrr, hll] at h
      cases h
    refine x_istore_7 hP u27_237 (by exact rfl) ?_
    refine x_aload_n hP u27_239 rfl ?_
    refine x_invokevirtual (bc' := bc - 1) (bs' := bs - 6) hP u27_240 rfl rfl rfl rfl rfl ?_
    refine sp96 ?_
    refine x_iload hP u27_243 rfl ?_
    refine x_icmp_eq hP u27_245 (fun q245 => ?_) (fun q245 => ?_)
    · refine x_iload hP u27_250 rfl ?_
      refine x_if_ne hP u27_252 (fun q252 => ?_) (fun q252 => ?_)
      · refine x_goto hP u27_267 ?_
        refine x_iinc_5 (v := 6) hP u27_1388 (by decide) (by exact rfl) ?_
        refine x_goto hP u27_1391 ?_
        rw [show nI (6 * g) + 6 = nI (6 * (g + 1)) from nI_add (6 * g) 6]
        refine hm _ _ _ _ _ _ _ (by repeat (first | exact am_le_nil | apply am_le_cons | apply am_le_none)) (hn _ _ _ _ _ _ _ _ _ _ _ _ _ _ (lw_I_15 hI) _ _ (by omega) (by omega))
      · exact absurd q252 (by decide)
    · exact absurd rfl q245
