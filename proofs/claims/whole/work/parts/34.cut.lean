/-! CUTTING ALONG THE LEGS; time; the place behind. (rows by gen/sp11.py) -/
theorem ml_all_app (l : List ml_L) (e : ml_L) : ml_all (l ++ [e]) = ml_all l ++ ml_pl e (ml_N e) := by
  induction l with
  | nil => simp [ml_all]
  | cons x l ih => rw [List.cons_append, ml_all, ih, ml_all, List.append_assoc]
theorem ml_tm_app (st : UInt32) : ∀ (l : List ml_L) (e : ml_L) (t : UInt32), ml_tm st (l ++ [e]) t = FP.fadd (ml_tm st l t) (FP.fmul (FP.i2f (ml_n e)) st)
  | [], e, t => rfl
  | x :: l, e, t => ml_tm_app st l e _
theorem ml_tok_at {st : UInt32} : ∀ {es : List ml_L} {t : UInt32} {j : Nat} {e : ml_L}, ml_tok st es t → es[j]? = some e → vf_n32 (FP.fmul (FP.i2f (ml_n e)) st) ∧ vf_n32 (FP.fadd (ml_tm st (es.take j) t) (FP.fmul (FP.i2f (ml_n e)) st))
  | [], t, j, e, _, h => by simp at h
  | x :: es, t, 0, e, hk, h => by
    simp only [List.getElem?_cons_zero, Option.some.injEq] at h
    subst h
    exact ⟨hk.1, hk.2.1⟩
  | x :: es, t, j + 1, e, hk, h => by
    rw [List.getElem?_cons_succ] at h
    have h9 := ml_tok_at (es := es) (j := j) hk.2.2 h
    exact h9
theorem ml_take {es : List ml_L} {j : Nat} {e : ml_L} (h : es[j]? = some e) : es.take (j + 1) = es.take j ++ [e] := by
  rw [List.take_add_one, h]; rfl
theorem ml_cc_one {s R : Nat} {p : ml_P} {S : Nat → Bool} : ml_cc s R [p] S = mr_cnt 1152 (fun q => S q && ml_re s R p q) := Nat.add_zero _
def mp_cp (e pl : Nat → Int32) : Nat → (Nat → Int32)
  | 0 => pl
  | i + 1 => upd (mp_cp e pl i) i (e i)
theorem am_u2_u2 {a : Nat → Nat → Int32} {g g' u u' : Nat → Int32} : am_u2 (am_u2 (am_u2 (am_u2 a 0 g) 1 u) 0 g') 1 u' = am_u2 (am_u2 a 0 g') 1 u' := by
  funext j
  simp only [am_u2]
  cases Nat.beq j 1 <;> cases Nat.beq j 0 <;> rfl
theorem am_u2_self {a : Nat → Nat → Int32} : am_u2 (am_u2 a 0 (a 0)) 1 (a 1) = a := by
  funext j
  simp only [am_u2]
  cases h1 : Nat.beq j 1
  · cases h0 : Nat.beq j 0
    · rfl
    · rw [Nat.eq_of_beq_eq_true h0]; rfl
  · rw [Nat.eq_of_beq_eq_true h1]; rfl
set_option maxHeartbeats 2000000 in
theorem sp35_1 {d : Nat} {K : am_K} {ha : Nat → Nat → Int32} {hz : Int32} {a1 : Nat → Nat → Int32} {s1 : Nat → Int32} {t1 : UInt32} {a2 : Nat → Nat → Int32} {s2 : Nat → Int32} {t2 : UInt32} {al : Int32} {ma : Nat → Nat → Int32} {ms : Nat → Int32} {mt : UInt32} {ol : Nat → Int64} {od : Nat → UInt64} {es : List ml_L} (hH : ml_hold (a1 5) (a1 6) es) (hL : s1 20 = nI es.length) (hL9 : es.length ≤ 102) {c sh R : Nat} (hsl : s1 10 = nI c) (hc : c < 12) (hs1 : s1 21 = nI sh) (hs2 : s1 22 = nI R) (hsh : sh = 101 ∨ sh = 98 ∨ sh = 118) (hR : R < 4) {S : Nat → Bool} (hS : ∀ j, j < 72 → a1 0 j = mr_w (fun q => S (16 * j + q))) {j9 : Nat} {e : ml_L} (he : es[j9]? = some e) (hin : ml_inn e) (k : ∀ (g u : Nat → Int32) (x y z : Int32), (∀ j, j < 72 → g j = mr_w (fun q => ml_cut sh R (ml_pl e (ml_N e)) S (16 * j + q))) → (u c = a1 1 c + nI (ml_cc sh R (ml_pl e (ml_N e)) S)) → (∀ j, j ≠ c → u j = a1 1 j) → K none (am_W ha hz (am_u2 (am_u2 a1 0 g) 1 u) (mc_mv s1 x y z) t1 a2 s2 t2 al ma ms mt ol od)) : am_Run (d + 4) 35 [.ref 15, .int (nI j9), .int (nI (ml_N e))] (am_W ha hz a1 s1 t1 a2 s2 t2 al ma ms mt ol od) K := by
  refine ⟨rfl, fun P hm hP => ?_⟩
  show P 0 [some (.ref 15), some (.int (nI j9)), some (.int (nI (ml_N e))), none] [] _ 0 0
  obtain ⟨hn1, hn2, hi3⟩ := hin
  have loop : ∀ (n i : Nat) (g u : Nat → Int32) (x y z : Int32), i ≤ ml_N e → ml_N e + 1 ≤ i + n → (∀ j, j < 72 → g j = mr_w (fun q => ml_cut sh R (ml_pl e i) S (16 * j + q))) → (u c = a1 1 c + nI (ml_cc sh R (ml_pl e i) S)) → (∀ j, j ≠ c → u j = a1 1 j) → P 16 [some (.ref 15), some (.int (nI j9)), some (.int (nI (ml_N e))), some (.int (nI (i + 1)))] [] (am_W ha hz (am_u2 (am_u2 a1 0 g) 1 u) (mc_mv s1 x y z) t1 a2 s2 t2 al ma ms mt ol od) 0 0 := by
    intro n
    induction n with
    | zero => intro i g u x y z h3 h4; omega
    | succ n ih =>
      intro i g u x y z h3 h4 hg hu1 hu2
      refine s_iload_n hP t35_16 rfl ?_
      refine s_iload_n hP t35_17 rfl ?_
      refine s_icmp_gt hP t35_18 (fun q18 => ?_) (fun q18 => ?_)
      · have e38 : ml_N e < i + 1 := Nat.lt_of_not_le (fun q => Int32.not_le.mpr q18 ((nI_leI (by omega) (by omega)).mpr q))
        refine s_return_ hP t35_57 rfl ?_
        obtain rfl : i = ml_N e := by omega
        exact k g u x y z hg hu1 hu2
      · have e38 : i + 1 ≤ ml_N e := (nI_leI (by omega) (by omega)).mp (Int32.not_lt.mp q18)
        refine s_aload_n hP t35_21 rfl ?_
        refine s_iload_n hP t35_22 rfl ?_
        refine s_iload_n hP t35_23 rfl ?_
        refine s_iload_n hP t35_24 rfl ?_
        refine s_invokevirtual (bc' := 0) (bs' := 0) hP t35_25 rfl rfl rfl rfl rfl ?_
        refine sp31_1_e (es := es) (a1 := (am_u2 (am_u2 a1 0 g) 1 u)) (s1 := (mc_mv s1 x y z)) (k := i + 1) hH hL (by omega) he hn1 ?_
        rw [mc_mv_mv]
        obtain ⟨X, Y, Z, hX, hY, hZ, eX, eY, eZ⟩ := hi3 (i + 1) (by omega) e38
        rw [eX, eY, eZ]
        refine s_aload_n hP t35_28 rfl ?_
        refine s_getfield hP t35_29 rfl rfl ?_
        refine s_aload_n hP t35_32 rfl ?_
        refine s_getfield hP t35_33 rfl rfl ?_
        refine s_dup2 hP t35_36 rfl rfl ?_
        refine s_iaload hP t35_37 rfl (by rw [show (mc_mv s1 (nI X) (nI Y) (nI Z)) 10 = nI c from hsl]; exact vp_in_nI hc (by decide)) ?_
        rw [show (mc_mv s1 (nI X) (nI Y) (nI Z)) 10 = nI c from hsl, nI_clamp (by omega)]
        refine s_aload_n hP t35_38 rfl ?_
        refine s_getfield hP t35_39 rfl rfl ?_
        refine s_aload_n hP t35_42 rfl ?_
        refine s_getfield hP t35_43 rfl rfl ?_
        refine s_invokevirtual (bc' := 0) (bs' := 0) hP t35_46 rfl rfl rfl rfl rfl ?_
        refine sp9 (S := ml_cut sh R (ml_pl e i) S) (s := sh) (R := R) (X := X) (Y := Y) (Z := Z) rfl rfl rfl (by decide) hg ?_ hsh hR hX hY hZ (by decide) (fun g9 hg9 => ?_)
        · rw [← hs1, ← hs2]
          rfl
        have eat : ml_at e (i + 1) = (X, Y, Z) := by rw [ml_at, eX, eY, eZ, nI_clamp (by omega), nI_clamp (by omega), nI_clamp (by omega)]
        refine s_iadd hP t35_49 ?_
        refine s_iastore hP t35_50 rfl (vp_in_nI hc (by decide)) ?_
        rw [nI_clamp (by omega)]
        refine s_iinc_3 (v := 1) hP t35_51 (by decide) (by exact rfl) ?_
        refine s_goto hP t35_54 ?_
        rw [nI_1]
        refine ih (i + 1) g9 (upd u c (u c + nI (mr_cnt 1152 (fun q => ml_cut sh R (ml_pl e i) S q && ml_re sh R (X, Y, Z) q)))) _ _ _ (by omega) (by omega) (fun j hj => ?_) ?_ (fun j hj => ?_)
        · rw [hg9 j hj]
          refine mr_w_congr (fun q hq => ?_)
          rw [ml_pl, ml_cut_app, eat]
          rfl
        · rw [show upd u c _ c = _ from pk_us, hu1, ml_pl, ml_cc_app, eat, ml_cc_one, ← nI_add, Int32.add_assoc]
        · rw [show upd u c _ j = u j from pk_un hj]; exact hu2 j hj
  refine s_aload_n hP t35_0 rfl ?_
  refine s_getfield hP t35_1 rfl rfl ?_
  refine s_iconst (v := 0) hP t35_4 (by decide) ?_
  refine s_bipush (v := 11) hP t35_5 (by decide) ?_
  refine s_invokestatic (bc' := 0) (bs' := 0) hP t35_7 rfl rfl rfl rfl rfl ?_
  refine sp84 ?_
  rw [hsl, mi_iw11 (by omega)]
  refine s_zne hP t35_10 (fun q10 => ?_) (fun q10 => ?_)
  · refine s_iconst (v := 1) hP t35_14 (by decide) ?_
    refine s_istore_n_3 hP t35_15 (by exact rfl) ?_
    have l9 := loop (ml_N e + 1) 0 (a1 0) (a1 1) (s1 23) (s1 24) (s1 25) (by omega) (by omega) hS (by show _ = a1 1 c + nI 0; rw [show nI 0 = (0 : Int32) from rfl, Int32.add_zero]) (fun _ _ => rfl)
    rw [mc_mv_self, am_u2_self] at l9
    exact l9
  · cases q10
theorem am_u2_at {a : Nat → Nat → Int32} {k : Nat} : am_u2 a k (a k) = a := by
  funext j
  simp only [am_u2]
  cases h : Nat.beq j k
  · rfl
  · rw [Nat.eq_of_beq_eq_true h]; rfl
set_option maxHeartbeats 2000000 in
theorem sp34_1c {d : Nat} {K : am_K} {ha : Nat → Nat → Int32} {hz : Int32} {a1 : Nat → Nat → Int32} {s1 : Nat → Int32} {t1 : UInt32} {a2 : Nat → Nat → Int32} {s2 : Nat → Int32} {t2 : UInt32} {al : Int32} {ma : Nat → Nat → Int32} {ms : Nat → Int32} {mt : UInt32} {ol : Nat → Int64} {od : Nat → UInt64} {es : List ml_L} (hH : ml_hold (a1 5) (a1 6) es) (hL : s1 20 = nI es.length) (hL9 : es.length ≤ 102) {c sh R : Nat} (hsl : s1 10 = nI c) (hc : c < 12) (hs1 : s1 21 = nI sh) (hs2 : s1 22 = nI R) (hsh : sh = 101 ∨ sh = 98 ∨ sh = 118) (hR : R < 4) {S : Nat → Bool} (hS : ∀ j, j < 72 → a1 0 j = mr_w (fun q => S (16 * j + q))) (hin : ∀ e ∈ es, ml_inn e) (hcut : mc_cut (s1 16) = true) {st : UInt32} (hst : st = FP.fdiv FP.fconst1 (FP.i2f (if s1 16 = 103 then 100 else s1 12))) (hstn : vf_n32 st) (htok : ml_tok st es t1) (k : ∀ (g u : Nat → Int32) (x y z : Int32), (∀ j, j < 72 → g j = mr_w (fun q => ml_cut sh R (ml_all es) S (16 * j + q))) → (u c = a1 1 c + nI (ml_cc sh R (ml_all es) S)) → (∀ j, j ≠ c → u j = a1 1 j) → K none (am_W ha hz (am_u2 (am_u2 (am_u2 a1 0 g) 1 u) 3 (mp_cp (a1 7) (a1 3) 3)) (mc_mv s1 x y z) (ml_tm st es t1) a2 s2 t2 al ma ms mt ol od)) : am_Run (d + 5) 34 [.ref 15] (am_W ha hz a1 s1 t1 a2 s2 t2 al ma ms mt ol od) K := by
  refine ⟨rfl, fun P hm hP => ?_⟩
  show P 0 [some (.ref 15), none, none, none] [] _ 0 0
  have hst9 : vf_n32 (FP.fdiv FP.fconst1 (FP.i2f (if s1 16 = 103 then 100 else s1 12))) := hst ▸ hstn
  have tail : ∀ (g u : Nat → Int32) (x y z : Int32), (∀ j5, j5 < 72 → g j5 = mr_w (fun q => ml_cut sh R (ml_all (es.take es.length)) S (16 * j5 + q))) → (u c = a1 1 c + nI (ml_cc sh R (ml_all (es.take es.length)) S)) → (∀ j5, j5 ≠ c → u j5 = a1 1 j5) →  P 76 [some (.ref 15), some (.float st), some (.int (nI es.length)), none] [] (am_W ha hz (am_u2 (am_u2 a1 0 g) 1 u) (mc_mv s1 x y z) (ml_tm st (es.take es.length) t1) a2 s2 t2 al ma ms mt ol od) 0 0 := by
    intro g u x y z hg hu1 hu2
    rw [List.take_length]
    have l3 : ∀ (n i : Nat), i ≤ 3 → 4 ≤ i + n → P 78 [some (.ref 15), some (.float st), some (.int (nI i)), none] [] (am_W ha hz (am_u2 (am_u2 (am_u2 a1 0 g) 1 u) 3 (mp_cp (a1 7) (a1 3) i)) (mc_mv s1 x y z) (ml_tm st es t1) a2 s2 t2 al ma ms mt ol od) 0 0 := by
      intro n
      induction n with
      | zero => intro i h3 h4; omega
      | succ n ih =>
        intro i h3 h4
        refine s_iload_n hP t34_78 rfl ?_
        refine s_iconst (v := 3) hP t34_79 (by decide) ?_
        refine s_icmp_ge hP t34_80 (fun q80 => ?_) (fun q80 => ?_)
        · have e9 : 3 ≤ i := mi_leN (by decide) (by omega) q80
          refine s_return_ hP t34_103 rfl ?_
          obtain rfl : i = 3 := by omega
          exact k g u x y z (by rw [List.take_length] at hg; exact hg) (by rw [List.take_length] at hu1; exact hu1) hu2
        · have e9 : i < 3 := mi_nleN (a := 3) (by decide) (by omega) q80
          refine s_aload_n hP t34_83 rfl ?_
          refine s_getfield hP t34_84 rfl rfl ?_
          refine s_iload_n hP t34_87 rfl ?_
          refine s_aload_n hP t34_88 rfl ?_
          refine s_getfield hP t34_89 rfl rfl ?_
          refine s_iload_n hP t34_92 rfl ?_
          refine s_invokevirtual (bc' := 0) (bs' := 0) hP t34_93 rfl rfl rfl rfl rfl ?_
          refine sp45 rfl rfl e9 ?_
          refine s_iastore hP t34_96 rfl (vp_in_nI e9 (by decide)) ?_
          rw [nI_clamp (by omega)]
          refine s_iinc_2 (v := 1) hP t34_97 (by decide) (by exact rfl) ?_
          refine s_goto hP t34_100 ?_
          rw [nI_1]
          exact ih (i + 1) (by omega) (by omega)
    refine s_iconst (v := 0) hP t34_76 (by decide) ?_
    refine s_istore_n_2 hP t34_77 (by exact rfl) ?_
    have l4 := l3 4 0 (by omega) (by omega)
    rw [show am_u2 (am_u2 (am_u2 a1 0 g) 1 u) 3 (mp_cp (a1 7) (a1 3) 0) = (am_u2 (am_u2 a1 0 g) 1 u) from am_u2_at] at l4
    exact l4
  have loop : ∀ (n j : Nat) (g u : Nat → Int32) (x y z : Int32), j ≤ es.length → es.length + 1 ≤ j + n → (∀ j5, j5 < 72 → g j5 = mr_w (fun q => ml_cut sh R (ml_all (es.take j)) S (16 * j5 + q))) → (u c = a1 1 c + nI (ml_cc sh R (ml_all (es.take j)) S)) → (∀ j5, j5 ≠ c → u j5 = a1 1 j5) → P 24 [some (.ref 15), some (.float st), some (.int (nI j)), none] [] (am_W ha hz (am_u2 (am_u2 a1 0 g) 1 u) (mc_mv s1 x y z) (ml_tm st (es.take j) t1) a2 s2 t2 al ma ms mt ol od) 0 0 := by
    intro n
    induction n with
    | zero => intro j g u x y z h3 h4; omega
    | succ n ih =>
      intro j g u x y z h3 h4 hg hu1 hu2
      refine s_iload_n hP t34_24 rfl ?_
      refine s_aload_n hP t34_25 rfl ?_
      refine s_getfield hP t34_26 rfl rfl ?_
      refine s_getfield hP t34_29 rfl rfl ?_
      refine s_icmp_ge hP t34_32 (fun q32 => ?_) (fun q32 => ?_)
      · have e32 : es.length ≤ j := by
          rw [show (mc_mv s1 x y z) 20 = nI es.length from hL] at q32
          exact (nI_leI (by omega) (by omega)).mp q32
        obtain rfl : j = es.length := by omega
        exact tail g u x y z hg hu1 hu2
      · have e32 : j < es.length := by
          rw [show (mc_mv s1 x y z) 20 = nI es.length from hL] at q32
          exact Nat.lt_of_not_le (fun q => q32 ((nI_leI (by omega) (by omega)).mpr q))
        refine s_aload_n hP t34_35 rfl ?_
        refine s_getfield hP t34_36 rfl rfl ?_
        refine s_iload_n hP t34_39 rfl ?_
        refine s_invokevirtual (bc' := 0) (bs' := 0) hP t34_40 rfl rfl rfl rfl rfl ?_
        refine sp46 rfl rfl (by omega) ?_
        obtain ⟨e, he⟩ := ml_lt e32
        obtain ⟨n1, n2⟩ := ml_tok_at htok he
        have hinn := hin e (List.mem_of_getElem? he)
        rw [show mp_steps ((am_u2 (am_u2 a1 0 g) 1 u) 6) j = ml_n e from ml_steps hH he, hinn.1]
        refine s_istore_n_3 hP t34_43 (by exact rfl) ?_
        refine s_aload_n hP t34_44 rfl ?_
        refine s_invokevirtual (bc' := 0) (bs' := 0) hP t34_45 rfl rfl rfl rfl rfl ?_
        refine sp21_1 ?_
        rw [show mc_cut ((mc_mv s1 x y z) 16) = true from hcut]
        refine s_zeq hP t34_48 (fun q48 => ?_) (fun q48 => ?_)
        · cases q48
        · refine s_aload_n hP t34_51 rfl ?_
          refine s_iload_n hP t34_52 rfl ?_
          refine s_iload_n hP t34_53 rfl ?_
          refine s_invokevirtual (bc' := 0) (bs' := 0) hP t34_54 rfl rfl rfl rfl rfl ?_
          refine sp35_1 (es := es) (a1 := (am_u2 (am_u2 a1 0 g) 1 u)) (s1 := (mc_mv s1 x y z)) hH hL (by omega) hsl hc hs1 hs2 hsh hR (S := ml_cut sh R (ml_all (es.take j)) S) hg he hinn (fun g9 u9 x9 y9 z9 hg9 hu9 hv9 => ?_)
          rw [mc_mv_mv, am_u2_u2, ← hinn.1]
          refine s_aload_n hP t34_57 rfl ?_
          refine s_aload_n hP t34_58 rfl ?_
          refine s_getfield hP t34_59 rfl rfl ?_
          refine s_iload_n hP t34_62 rfl ?_
          refine s_i2f hP t34_63 ?_
          refine s_fload_n hP t34_64 rfl ?_
          refine s_fmul hP t34_65 n1 ?_
          refine s_fadd hP t34_66 n2 ?_
          refine s_putfield hP t34_67 rfl rfl rfl rfl ?_
          refine s_iinc_2 (v := 1) hP t34_70 (by decide) (by exact rfl) ?_
          refine s_goto hP t34_73 ?_
          rw [← ml_tm_app, ← ml_take he, nI_1]
          refine hm _ _ _ _ _ _ _ (by repeat (first | exact am_le_nil | apply am_le_cons | apply am_le_none)) (ih (j + 1) g9 u9 x9 y9 z9 (by omega) (by omega)  (fun j2 hj2 => by
              rw [hg9 j2 hj2, ml_take he, ml_all_app]
              exact mr_w_congr (fun q _ => by rw [ml_cut_app])) (by
              rw [hu9]
              show u c + _ = _
              rw [hu1, ml_take he, ml_all_app, ml_cc_app, ← nI_add, Int32.add_assoc]) (fun j2 hj2 => by
              rw [hv9 j2 hj2]
              exact hu2 j2 hj2))
  refine s_fconst1 hP t34_0 ?_
  refine s_aload_n hP t34_1 rfl ?_
  refine s_getfield hP t34_2 rfl rfl ?_
  refine s_bipush (v := 103) hP t34_5 (by decide) ?_
  refine s_icmp_ne hP t34_7 (fun q7 => ?_) (fun q7 => ?_)
  · rw [if_neg q7] at hst hst9
    refine s_aload_n hP t34_15 rfl ?_
    refine s_getfield hP t34_16 rfl rfl ?_
    refine s_i2f hP t34_19 ?_
    refine s_fdiv hP t34_20 hst9 ?_
    rw [← hst]
    refine s_fstore_n_1 hP t34_21 (by exact rfl) ?_
    refine s_iconst (v := 0) hP t34_22 (by decide) ?_
    refine s_istore_n_2 hP t34_23 (by exact rfl) ?_
    have l9 := loop (es.length + 1) 0 (a1 0) (a1 1) (s1 23) (s1 24) (s1 25) (by omega) (by omega) hS (by show _ = a1 1 c + nI 0; rw [show nI 0 = (0 : Int32) from rfl, Int32.add_zero]) (fun _ _ => rfl)
    rw [mc_mv_self, am_u2_self, List.take_zero, ml_tm] at l9
    exact l9
  · rw [if_pos q7] at hst hst9
    refine s_bipush (v := 100) hP t34_10 (by decide) ?_
    refine s_goto hP t34_12 ?_
    refine s_i2f hP t34_19 ?_
    refine s_fdiv hP t34_20 hst9 ?_
    rw [← hst]
    refine s_fstore_n_1 hP t34_21 (by exact rfl) ?_
    refine s_iconst (v := 0) hP t34_22 (by decide) ?_
    refine s_istore_n_2 hP t34_23 (by exact rfl) ?_
    have l9 := loop (es.length + 1) 0 (a1 0) (a1 1) (s1 23) (s1 24) (s1 25) (by omega) (by omega) hS (by show _ = a1 1 c + nI 0; rw [show nI 0 = (0 : Int32) from rfl, Int32.add_zero]) (fun _ _ => rfl)
    rw [mc_mv_self, am_u2_self, List.take_zero, ml_tm] at l9
    exact l9
set_option maxHeartbeats 2000000 in
theorem sp34_1n {d : Nat} {K : am_K} {ha : Nat → Nat → Int32} {hz : Int32} {a1 : Nat → Nat → Int32} {s1 : Nat → Int32} {t1 : UInt32} {a2 : Nat → Nat → Int32} {s2 : Nat → Int32} {t2 : UInt32} {al : Int32} {ma : Nat → Nat → Int32} {ms : Nat → Int32} {mt : UInt32} {ol : Nat → Int64} {od : Nat → UInt64} {es : List ml_L} (hH : ml_hold (a1 5) (a1 6) es) (hL : s1 20 = nI es.length) (hL9 : es.length ≤ 102) (hin : ∀ e ∈ es, ml_inn e) (hcut : mc_cut (s1 16) = false) {st : UInt32} (hst : st = FP.fdiv FP.fconst1 (FP.i2f (if s1 16 = 103 then 100 else s1 12))) (hstn : vf_n32 st) (htok : ml_tok st es t1) (k : K none (am_W ha hz (am_u2 a1 3 (mp_cp (a1 7) (a1 3) 3)) s1 (ml_tm st es t1) a2 s2 t2 al ma ms mt ol od)) : am_Run (d + 5) 34 [.ref 15] (am_W ha hz a1 s1 t1 a2 s2 t2 al ma ms mt ol od) K := by
  refine ⟨rfl, fun P hm hP => ?_⟩
  show P 0 [some (.ref 15), none, none, none] [] _ 0 0
  have hst9 : vf_n32 (FP.fdiv FP.fconst1 (FP.i2f (if s1 16 = 103 then 100 else s1 12))) := hst ▸ hstn
  have tail :  P 76 [some (.ref 15), some (.float st), some (.int (nI es.length)), none] [] (am_W ha hz a1 s1 (ml_tm st (es.take es.length) t1) a2 s2 t2 al ma ms mt ol od) 0 0 := by
    skip
    rw [List.take_length]
    have l3 : ∀ (n i : Nat), i ≤ 3 → 4 ≤ i + n → P 78 [some (.ref 15), some (.float st), some (.int (nI i)), none] [] (am_W ha hz (am_u2 a1 3 (mp_cp (a1 7) (a1 3) i)) s1 (ml_tm st es t1) a2 s2 t2 al ma ms mt ol od) 0 0 := by
      intro n
      induction n with
      | zero => intro i h3 h4; omega
      | succ n ih =>
        intro i h3 h4
        refine s_iload_n hP t34_78 rfl ?_
        refine s_iconst (v := 3) hP t34_79 (by decide) ?_
        refine s_icmp_ge hP t34_80 (fun q80 => ?_) (fun q80 => ?_)
        · have e9 : 3 ≤ i := mi_leN (by decide) (by omega) q80
          refine s_return_ hP t34_103 rfl ?_
          obtain rfl : i = 3 := by omega
          exact k 
        · have e9 : i < 3 := mi_nleN (a := 3) (by decide) (by omega) q80
          refine s_aload_n hP t34_83 rfl ?_
          refine s_getfield hP t34_84 rfl rfl ?_
          refine s_iload_n hP t34_87 rfl ?_
          refine s_aload_n hP t34_88 rfl ?_
          refine s_getfield hP t34_89 rfl rfl ?_
          refine s_iload_n hP t34_92 rfl ?_
          refine s_invokevirtual (bc' := 0) (bs' := 0) hP t34_93 rfl rfl rfl rfl rfl ?_
          refine sp45 rfl rfl e9 ?_
          refine s_iastore hP t34_96 rfl (vp_in_nI e9 (by decide)) ?_
          rw [nI_clamp (by omega)]
          refine s_iinc_2 (v := 1) hP t34_97 (by decide) (by exact rfl) ?_
          refine s_goto hP t34_100 ?_
          rw [nI_1]
          exact ih (i + 1) (by omega) (by omega)
    refine s_iconst (v := 0) hP t34_76 (by decide) ?_
    refine s_istore_n_2 hP t34_77 (by exact rfl) ?_
    have l4 := l3 4 0 (by omega) (by omega)
    rw [show am_u2 a1 3 (mp_cp (a1 7) (a1 3) 0) = a1 from am_u2_at] at l4
    exact l4
  have loop : ∀ (n j : Nat) , j ≤ es.length → es.length + 1 ≤ j + n → P 24 [some (.ref 15), some (.float st), some (.int (nI j)), none] [] (am_W ha hz a1 s1 (ml_tm st (es.take j) t1) a2 s2 t2 al ma ms mt ol od) 0 0 := by
    intro n
    induction n with
    | zero => intro j h3 h4; omega
    | succ n ih =>
      intro j h3 h4
      refine s_iload_n hP t34_24 rfl ?_
      refine s_aload_n hP t34_25 rfl ?_
      refine s_getfield hP t34_26 rfl rfl ?_
      refine s_getfield hP t34_29 rfl rfl ?_
      refine s_icmp_ge hP t34_32 (fun q32 => ?_) (fun q32 => ?_)
      · have e32 : es.length ≤ j := by
          rw [show s1 20 = nI es.length from hL] at q32
          exact (nI_leI (by omega) (by omega)).mp q32
        obtain rfl : j = es.length := by omega
        exact tail 
      · have e32 : j < es.length := by
          rw [show s1 20 = nI es.length from hL] at q32
          exact Nat.lt_of_not_le (fun q => q32 ((nI_leI (by omega) (by omega)).mpr q))
        refine s_aload_n hP t34_35 rfl ?_
        refine s_getfield hP t34_36 rfl rfl ?_
        refine s_iload_n hP t34_39 rfl ?_
        refine s_invokevirtual (bc' := 0) (bs' := 0) hP t34_40 rfl rfl rfl rfl rfl ?_
        refine sp46 rfl rfl (by omega) ?_
        obtain ⟨e, he⟩ := ml_lt e32
        obtain ⟨n1, n2⟩ := ml_tok_at htok he
        have hinn := hin e (List.mem_of_getElem? he)
        rw [show mp_steps (a1 6) j = ml_n e from ml_steps hH he, hinn.1]
        refine s_istore_n_3 hP t34_43 (by exact rfl) ?_
        rw [← hinn.1]
        refine s_aload_n hP t34_44 rfl ?_
        refine s_invokevirtual (bc' := 0) (bs' := 0) hP t34_45 rfl rfl rfl rfl rfl ?_
        refine sp21_1 ?_
        rw [show mc_cut (s1 16) = false from hcut]
        refine s_zeq hP t34_48 (fun q48 => ?_) (fun q48 => ?_)
        · refine s_aload_n hP t34_57 rfl ?_
          refine s_aload_n hP t34_58 rfl ?_
          refine s_getfield hP t34_59 rfl rfl ?_
          refine s_iload_n hP t34_62 rfl ?_
          refine s_i2f hP t34_63 ?_
          refine s_fload_n hP t34_64 rfl ?_
          refine s_fmul hP t34_65 n1 ?_
          refine s_fadd hP t34_66 n2 ?_
          refine s_putfield hP t34_67 rfl rfl rfl rfl ?_
          refine s_iinc_2 (v := 1) hP t34_70 (by decide) (by exact rfl) ?_
          refine s_goto hP t34_73 ?_
          rw [← ml_tm_app, ← ml_take he, nI_1]
          refine hm _ _ _ _ _ _ _ (by repeat (first | exact am_le_nil | apply am_le_cons | apply am_le_none)) (ih (j + 1) (by omega) (by omega))
        · cases q48
  refine s_fconst1 hP t34_0 ?_
  refine s_aload_n hP t34_1 rfl ?_
  refine s_getfield hP t34_2 rfl rfl ?_
  refine s_bipush (v := 103) hP t34_5 (by decide) ?_
  refine s_icmp_ne hP t34_7 (fun q7 => ?_) (fun q7 => ?_)
  · rw [if_neg q7] at hst hst9
    refine s_aload_n hP t34_15 rfl ?_
    refine s_getfield hP t34_16 rfl rfl ?_
    refine s_i2f hP t34_19 ?_
    refine s_fdiv hP t34_20 hst9 ?_
    rw [← hst]
    refine s_fstore_n_1 hP t34_21 (by exact rfl) ?_
    refine s_iconst (v := 0) hP t34_22 (by decide) ?_
    refine s_istore_n_2 hP t34_23 (by exact rfl) ?_
    have l9 := loop (es.length + 1) 0 (by omega) (by omega)
    rw [List.take_zero, ml_tm] at l9
    exact l9
  · rw [if_pos q7] at hst hst9
    refine s_bipush (v := 100) hP t34_10 (by decide) ?_
    refine s_goto hP t34_12 ?_
    refine s_i2f hP t34_19 ?_
    refine s_fdiv hP t34_20 hst9 ?_
    rw [← hst]
    refine s_fstore_n_1 hP t34_21 (by exact rfl) ?_
    refine s_iconst (v := 0) hP t34_22 (by decide) ?_
    refine s_istore_n_2 hP t34_23 (by exact rfl) ?_
    have l9 := loop (es.length + 1) 0 (by omega) (by omega)
    rw [List.take_zero, ml_tm] at l9
    exact l9
set_option maxHeartbeats 2000000 in
theorem sp35_2 {d : Nat} {K : am_K} {ha : Nat → Nat → Int32} {hz : Int32} {a1 : Nat → Nat → Int32} {s1 : Nat → Int32} {t1 : UInt32} {a2 : Nat → Nat → Int32} {s2 : Nat → Int32} {t2 : UInt32} {al : Int32} {ma : Nat → Nat → Int32} {ms : Nat → Int32} {mt : UInt32} {ol : Nat → Int64} {od : Nat → UInt64} {es : List ml_L} (hH : ml_hold (a2 5) (a2 6) es) (hL : s2 20 = nI es.length) (hL9 : es.length ≤ 102) {c sh R : Nat} (hsl : s2 10 = nI c) (hc : c < 12) (hs1 : s2 21 = nI sh) (hs2 : s2 22 = nI R) (hsh : sh = 101 ∨ sh = 98 ∨ sh = 118) (hR : R < 4) {S : Nat → Bool} (hS : ∀ j, j < 72 → a2 0 j = mr_w (fun q => S (16 * j + q))) {j9 : Nat} {e : ml_L} (he : es[j9]? = some e) (hin : ml_inn e) (k : ∀ (g u : Nat → Int32) (x y z : Int32), (∀ j, j < 72 → g j = mr_w (fun q => ml_cut sh R (ml_pl e (ml_N e)) S (16 * j + q))) → (u c = a2 1 c + nI (ml_cc sh R (ml_pl e (ml_N e)) S)) → (∀ j, j ≠ c → u j = a2 1 j) → K none (am_W ha hz a1 s1 t1 (am_u2 (am_u2 a2 0 g) 1 u) (mc_mv s2 x y z) t2 al ma ms mt ol od)) : am_Run (d + 4) 35 [.ref 27, .int (nI j9), .int (nI (ml_N e))] (am_W ha hz a1 s1 t1 a2 s2 t2 al ma ms mt ol od) K := by
  refine ⟨rfl, fun P hm hP => ?_⟩
  show P 0 [some (.ref 27), some (.int (nI j9)), some (.int (nI (ml_N e))), none] [] _ 0 0
  obtain ⟨hn1, hn2, hi3⟩ := hin
  have loop : ∀ (n i : Nat) (g u : Nat → Int32) (x y z : Int32), i ≤ ml_N e → ml_N e + 1 ≤ i + n → (∀ j, j < 72 → g j = mr_w (fun q => ml_cut sh R (ml_pl e i) S (16 * j + q))) → (u c = a2 1 c + nI (ml_cc sh R (ml_pl e i) S)) → (∀ j, j ≠ c → u j = a2 1 j) → P 16 [some (.ref 27), some (.int (nI j9)), some (.int (nI (ml_N e))), some (.int (nI (i + 1)))] [] (am_W ha hz a1 s1 t1 (am_u2 (am_u2 a2 0 g) 1 u) (mc_mv s2 x y z) t2 al ma ms mt ol od) 0 0 := by
    intro n
    induction n with
    | zero => intro i g u x y z h3 h4; omega
    | succ n ih =>
      intro i g u x y z h3 h4 hg hu1 hu2
      refine s_iload_n hP t35_16 rfl ?_
      refine s_iload_n hP t35_17 rfl ?_
      refine s_icmp_gt hP t35_18 (fun q18 => ?_) (fun q18 => ?_)
      · have e38 : ml_N e < i + 1 := Nat.lt_of_not_le (fun q => Int32.not_le.mpr q18 ((nI_leI (by omega) (by omega)).mpr q))
        refine s_return_ hP t35_57 rfl ?_
        obtain rfl : i = ml_N e := by omega
        exact k g u x y z hg hu1 hu2
      · have e38 : i + 1 ≤ ml_N e := (nI_leI (by omega) (by omega)).mp (Int32.not_lt.mp q18)
        refine s_aload_n hP t35_21 rfl ?_
        refine s_iload_n hP t35_22 rfl ?_
        refine s_iload_n hP t35_23 rfl ?_
        refine s_iload_n hP t35_24 rfl ?_
        refine s_invokevirtual (bc' := 0) (bs' := 0) hP t35_25 rfl rfl rfl rfl rfl ?_
        refine sp31_2_e (es := es) (a2 := (am_u2 (am_u2 a2 0 g) 1 u)) (s2 := (mc_mv s2 x y z)) (k := i + 1) hH hL (by omega) he hn1 ?_
        rw [mc_mv_mv]
        obtain ⟨X, Y, Z, hX, hY, hZ, eX, eY, eZ⟩ := hi3 (i + 1) (by omega) e38
        rw [eX, eY, eZ]
        refine s_aload_n hP t35_28 rfl ?_
        refine s_getfield hP t35_29 rfl rfl ?_
        refine s_aload_n hP t35_32 rfl ?_
        refine s_getfield hP t35_33 rfl rfl ?_
        refine s_dup2 hP t35_36 rfl rfl ?_
        refine s_iaload hP t35_37 rfl (by rw [show (mc_mv s2 (nI X) (nI Y) (nI Z)) 10 = nI c from hsl]; exact vp_in_nI hc (by decide)) ?_
        rw [show (mc_mv s2 (nI X) (nI Y) (nI Z)) 10 = nI c from hsl, nI_clamp (by omega)]
        refine s_aload_n hP t35_38 rfl ?_
        refine s_getfield hP t35_39 rfl rfl ?_
        refine s_aload_n hP t35_42 rfl ?_
        refine s_getfield hP t35_43 rfl rfl ?_
        refine s_invokevirtual (bc' := 0) (bs' := 0) hP t35_46 rfl rfl rfl rfl rfl ?_
        refine sp9 (S := ml_cut sh R (ml_pl e i) S) (s := sh) (R := R) (X := X) (Y := Y) (Z := Z) rfl rfl rfl (by decide) hg ?_ hsh hR hX hY hZ (by decide) (fun g9 hg9 => ?_)
        · rw [← hs1, ← hs2]
          rfl
        have eat : ml_at e (i + 1) = (X, Y, Z) := by rw [ml_at, eX, eY, eZ, nI_clamp (by omega), nI_clamp (by omega), nI_clamp (by omega)]
        refine s_iadd hP t35_49 ?_
        refine s_iastore hP t35_50 rfl (vp_in_nI hc (by decide)) ?_
        rw [nI_clamp (by omega)]
        refine s_iinc_3 (v := 1) hP t35_51 (by decide) (by exact rfl) ?_
        refine s_goto hP t35_54 ?_
        rw [nI_1]
        refine ih (i + 1) g9 (upd u c (u c + nI (mr_cnt 1152 (fun q => ml_cut sh R (ml_pl e i) S q && ml_re sh R (X, Y, Z) q)))) _ _ _ (by omega) (by omega) (fun j hj => ?_) ?_ (fun j hj => ?_)
        · rw [hg9 j hj]
          refine mr_w_congr (fun q hq => ?_)
          rw [ml_pl, ml_cut_app, eat]
          rfl
        · rw [show upd u c _ c = _ from pk_us, hu1, ml_pl, ml_cc_app, eat, ml_cc_one, ← nI_add, Int32.add_assoc]
        · rw [show upd u c _ j = u j from pk_un hj]; exact hu2 j hj
  refine s_aload_n hP t35_0 rfl ?_
  refine s_getfield hP t35_1 rfl rfl ?_
  refine s_iconst (v := 0) hP t35_4 (by decide) ?_
  refine s_bipush (v := 11) hP t35_5 (by decide) ?_
  refine s_invokestatic (bc' := 0) (bs' := 0) hP t35_7 rfl rfl rfl rfl rfl ?_
  refine sp84 ?_
  rw [hsl, mi_iw11 (by omega)]
  refine s_zne hP t35_10 (fun q10 => ?_) (fun q10 => ?_)
  · refine s_iconst (v := 1) hP t35_14 (by decide) ?_
    refine s_istore_n_3 hP t35_15 (by exact rfl) ?_
    have l9 := loop (ml_N e + 1) 0 (a2 0) (a2 1) (s2 23) (s2 24) (s2 25) (by omega) (by omega) hS (by show _ = a2 1 c + nI 0; rw [show nI 0 = (0 : Int32) from rfl, Int32.add_zero]) (fun _ _ => rfl)
    rw [mc_mv_self, am_u2_self] at l9
    exact l9
  · cases q10
set_option maxHeartbeats 2000000 in
theorem sp34_2c {d : Nat} {K : am_K} {ha : Nat → Nat → Int32} {hz : Int32} {a1 : Nat → Nat → Int32} {s1 : Nat → Int32} {t1 : UInt32} {a2 : Nat → Nat → Int32} {s2 : Nat → Int32} {t2 : UInt32} {al : Int32} {ma : Nat → Nat → Int32} {ms : Nat → Int32} {mt : UInt32} {ol : Nat → Int64} {od : Nat → UInt64} {es : List ml_L} (hH : ml_hold (a2 5) (a2 6) es) (hL : s2 20 = nI es.length) (hL9 : es.length ≤ 102) {c sh R : Nat} (hsl : s2 10 = nI c) (hc : c < 12) (hs1 : s2 21 = nI sh) (hs2 : s2 22 = nI R) (hsh : sh = 101 ∨ sh = 98 ∨ sh = 118) (hR : R < 4) {S : Nat → Bool} (hS : ∀ j, j < 72 → a2 0 j = mr_w (fun q => S (16 * j + q))) (hin : ∀ e ∈ es, ml_inn e) (hcut : mc_cut (s2 16) = true) {st : UInt32} (hst : st = FP.fdiv FP.fconst1 (FP.i2f (if s2 16 = 103 then 100 else s2 12))) (hstn : vf_n32 st) (htok : ml_tok st es t2) (k : ∀ (g u : Nat → Int32) (x y z : Int32), (∀ j, j < 72 → g j = mr_w (fun q => ml_cut sh R (ml_all es) S (16 * j + q))) → (u c = a2 1 c + nI (ml_cc sh R (ml_all es) S)) → (∀ j, j ≠ c → u j = a2 1 j) → K none (am_W ha hz a1 s1 t1 (am_u2 (am_u2 (am_u2 a2 0 g) 1 u) 3 (mp_cp (a2 7) (a2 3) 3)) (mc_mv s2 x y z) (ml_tm st es t2) al ma ms mt ol od)) : am_Run (d + 5) 34 [.ref 27] (am_W ha hz a1 s1 t1 a2 s2 t2 al ma ms mt ol od) K := by
  refine ⟨rfl, fun P hm hP => ?_⟩
  show P 0 [some (.ref 27), none, none, none] [] _ 0 0
  have hst9 : vf_n32 (FP.fdiv FP.fconst1 (FP.i2f (if s2 16 = 103 then 100 else s2 12))) := hst ▸ hstn
  have tail : ∀ (g u : Nat → Int32) (x y z : Int32), (∀ j5, j5 < 72 → g j5 = mr_w (fun q => ml_cut sh R (ml_all (es.take es.length)) S (16 * j5 + q))) → (u c = a2 1 c + nI (ml_cc sh R (ml_all (es.take es.length)) S)) → (∀ j5, j5 ≠ c → u j5 = a2 1 j5) →  P 76 [some (.ref 27), some (.float st), some (.int (nI es.length)), none] [] (am_W ha hz a1 s1 t1 (am_u2 (am_u2 a2 0 g) 1 u) (mc_mv s2 x y z) (ml_tm st (es.take es.length) t2) al ma ms mt ol od) 0 0 := by
    intro g u x y z hg hu1 hu2
    rw [List.take_length]
    have l3 : ∀ (n i : Nat), i ≤ 3 → 4 ≤ i + n → P 78 [some (.ref 27), some (.float st), some (.int (nI i)), none] [] (am_W ha hz a1 s1 t1 (am_u2 (am_u2 (am_u2 a2 0 g) 1 u) 3 (mp_cp (a2 7) (a2 3) i)) (mc_mv s2 x y z) (ml_tm st es t2) al ma ms mt ol od) 0 0 := by
      intro n
      induction n with
      | zero => intro i h3 h4; omega
      | succ n ih =>
        intro i h3 h4
        refine s_iload_n hP t34_78 rfl ?_
        refine s_iconst (v := 3) hP t34_79 (by decide) ?_
        refine s_icmp_ge hP t34_80 (fun q80 => ?_) (fun q80 => ?_)
        · have e9 : 3 ≤ i := mi_leN (by decide) (by omega) q80
          refine s_return_ hP t34_103 rfl ?_
          obtain rfl : i = 3 := by omega
          exact k g u x y z (by rw [List.take_length] at hg; exact hg) (by rw [List.take_length] at hu1; exact hu1) hu2
        · have e9 : i < 3 := mi_nleN (a := 3) (by decide) (by omega) q80
          refine s_aload_n hP t34_83 rfl ?_
          refine s_getfield hP t34_84 rfl rfl ?_
          refine s_iload_n hP t34_87 rfl ?_
          refine s_aload_n hP t34_88 rfl ?_
          refine s_getfield hP t34_89 rfl rfl ?_
          refine s_iload_n hP t34_92 rfl ?_
          refine s_invokevirtual (bc' := 0) (bs' := 0) hP t34_93 rfl rfl rfl rfl rfl ?_
          refine sp45 rfl rfl e9 ?_
          refine s_iastore hP t34_96 rfl (vp_in_nI e9 (by decide)) ?_
          rw [nI_clamp (by omega)]
          refine s_iinc_2 (v := 1) hP t34_97 (by decide) (by exact rfl) ?_
          refine s_goto hP t34_100 ?_
          rw [nI_1]
          exact ih (i + 1) (by omega) (by omega)
    refine s_iconst (v := 0) hP t34_76 (by decide) ?_
    refine s_istore_n_2 hP t34_77 (by exact rfl) ?_
    have l4 := l3 4 0 (by omega) (by omega)
    rw [show am_u2 (am_u2 (am_u2 a2 0 g) 1 u) 3 (mp_cp (a2 7) (a2 3) 0) = (am_u2 (am_u2 a2 0 g) 1 u) from am_u2_at] at l4
    exact l4
  have loop : ∀ (n j : Nat) (g u : Nat → Int32) (x y z : Int32), j ≤ es.length → es.length + 1 ≤ j + n → (∀ j5, j5 < 72 → g j5 = mr_w (fun q => ml_cut sh R (ml_all (es.take j)) S (16 * j5 + q))) → (u c = a2 1 c + nI (ml_cc sh R (ml_all (es.take j)) S)) → (∀ j5, j5 ≠ c → u j5 = a2 1 j5) → P 24 [some (.ref 27), some (.float st), some (.int (nI j)), none] [] (am_W ha hz a1 s1 t1 (am_u2 (am_u2 a2 0 g) 1 u) (mc_mv s2 x y z) (ml_tm st (es.take j) t2) al ma ms mt ol od) 0 0 := by
    intro n
    induction n with
    | zero => intro j g u x y z h3 h4; omega
    | succ n ih =>
      intro j g u x y z h3 h4 hg hu1 hu2
      refine s_iload_n hP t34_24 rfl ?_
      refine s_aload_n hP t34_25 rfl ?_
      refine s_getfield hP t34_26 rfl rfl ?_
      refine s_getfield hP t34_29 rfl rfl ?_
      refine s_icmp_ge hP t34_32 (fun q32 => ?_) (fun q32 => ?_)
      · have e32 : es.length ≤ j := by
          rw [show (mc_mv s2 x y z) 20 = nI es.length from hL] at q32
          exact (nI_leI (by omega) (by omega)).mp q32
        obtain rfl : j = es.length := by omega
        exact tail g u x y z hg hu1 hu2
      · have e32 : j < es.length := by
          rw [show (mc_mv s2 x y z) 20 = nI es.length from hL] at q32
          exact Nat.lt_of_not_le (fun q => q32 ((nI_leI (by omega) (by omega)).mpr q))
        refine s_aload_n hP t34_35 rfl ?_
        refine s_getfield hP t34_36 rfl rfl ?_
        refine s_iload_n hP t34_39 rfl ?_
        refine s_invokevirtual (bc' := 0) (bs' := 0) hP t34_40 rfl rfl rfl rfl rfl ?_
        refine sp46 rfl rfl (by omega) ?_
        obtain ⟨e, he⟩ := ml_lt e32
        obtain ⟨n1, n2⟩ := ml_tok_at htok he
        have hinn := hin e (List.mem_of_getElem? he)
        rw [show mp_steps ((am_u2 (am_u2 a2 0 g) 1 u) 6) j = ml_n e from ml_steps hH he, hinn.1]
        refine s_istore_n_3 hP t34_43 (by exact rfl) ?_
        refine s_aload_n hP t34_44 rfl ?_
        refine s_invokevirtual (bc' := 0) (bs' := 0) hP t34_45 rfl rfl rfl rfl rfl ?_
        refine sp21_2 ?_
        rw [show mc_cut ((mc_mv s2 x y z) 16) = true from hcut]
        refine s_zeq hP t34_48 (fun q48 => ?_) (fun q48 => ?_)
        · cases q48
        · refine s_aload_n hP t34_51 rfl ?_
          refine s_iload_n hP t34_52 rfl ?_
          refine s_iload_n hP t34_53 rfl ?_
          refine s_invokevirtual (bc' := 0) (bs' := 0) hP t34_54 rfl rfl rfl rfl rfl ?_
          refine sp35_2 (es := es) (a2 := (am_u2 (am_u2 a2 0 g) 1 u)) (s2 := (mc_mv s2 x y z)) hH hL (by omega) hsl hc hs1 hs2 hsh hR (S := ml_cut sh R (ml_all (es.take j)) S) hg he hinn (fun g9 u9 x9 y9 z9 hg9 hu9 hv9 => ?_)
          rw [mc_mv_mv, am_u2_u2, ← hinn.1]
          refine s_aload_n hP t34_57 rfl ?_
          refine s_aload_n hP t34_58 rfl ?_
          refine s_getfield hP t34_59 rfl rfl ?_
          refine s_iload_n hP t34_62 rfl ?_
          refine s_i2f hP t34_63 ?_
          refine s_fload_n hP t34_64 rfl ?_
          refine s_fmul hP t34_65 n1 ?_
          refine s_fadd hP t34_66 n2 ?_
          refine s_putfield hP t34_67 rfl rfl rfl rfl ?_
          refine s_iinc_2 (v := 1) hP t34_70 (by decide) (by exact rfl) ?_
          refine s_goto hP t34_73 ?_
          rw [← ml_tm_app, ← ml_take he, nI_1]
          refine hm _ _ _ _ _ _ _ (by repeat (first | exact am_le_nil | apply am_le_cons | apply am_le_none)) (ih (j + 1) g9 u9 x9 y9 z9 (by omega) (by omega)  (fun j2 hj2 => by
              rw [hg9 j2 hj2, ml_take he, ml_all_app]
              exact mr_w_congr (fun q _ => by rw [ml_cut_app])) (by
              rw [hu9]
              show u c + _ = _
              rw [hu1, ml_take he, ml_all_app, ml_cc_app, ← nI_add, Int32.add_assoc]) (fun j2 hj2 => by
              rw [hv9 j2 hj2]
              exact hu2 j2 hj2))
  refine s_fconst1 hP t34_0 ?_
  refine s_aload_n hP t34_1 rfl ?_
  refine s_getfield hP t34_2 rfl rfl ?_
  refine s_bipush (v := 103) hP t34_5 (by decide) ?_
  refine s_icmp_ne hP t34_7 (fun q7 => ?_) (fun q7 => ?_)
  · rw [if_neg q7] at hst hst9
    refine s_aload_n hP t34_15 rfl ?_
    refine s_getfield hP t34_16 rfl rfl ?_
    refine s_i2f hP t34_19 ?_
    refine s_fdiv hP t34_20 hst9 ?_
    rw [← hst]
    refine s_fstore_n_1 hP t34_21 (by exact rfl) ?_
    refine s_iconst (v := 0) hP t34_22 (by decide) ?_
    refine s_istore_n_2 hP t34_23 (by exact rfl) ?_
    have l9 := loop (es.length + 1) 0 (a2 0) (a2 1) (s2 23) (s2 24) (s2 25) (by omega) (by omega) hS (by show _ = a2 1 c + nI 0; rw [show nI 0 = (0 : Int32) from rfl, Int32.add_zero]) (fun _ _ => rfl)
    rw [mc_mv_self, am_u2_self, List.take_zero, ml_tm] at l9
    exact l9
  · rw [if_pos q7] at hst hst9
    refine s_bipush (v := 100) hP t34_10 (by decide) ?_
    refine s_goto hP t34_12 ?_
    refine s_i2f hP t34_19 ?_
    refine s_fdiv hP t34_20 hst9 ?_
    rw [← hst]
    refine s_fstore_n_1 hP t34_21 (by exact rfl) ?_
    refine s_iconst (v := 0) hP t34_22 (by decide) ?_
    refine s_istore_n_2 hP t34_23 (by exact rfl) ?_
    have l9 := loop (es.length + 1) 0 (a2 0) (a2 1) (s2 23) (s2 24) (s2 25) (by omega) (by omega) hS (by show _ = a2 1 c + nI 0; rw [show nI 0 = (0 : Int32) from rfl, Int32.add_zero]) (fun _ _ => rfl)
    rw [mc_mv_self, am_u2_self, List.take_zero, ml_tm] at l9
    exact l9
set_option maxHeartbeats 2000000 in
theorem sp34_2n {d : Nat} {K : am_K} {ha : Nat → Nat → Int32} {hz : Int32} {a1 : Nat → Nat → Int32} {s1 : Nat → Int32} {t1 : UInt32} {a2 : Nat → Nat → Int32} {s2 : Nat → Int32} {t2 : UInt32} {al : Int32} {ma : Nat → Nat → Int32} {ms : Nat → Int32} {mt : UInt32} {ol : Nat → Int64} {od : Nat → UInt64} {es : List ml_L} (hH : ml_hold (a2 5) (a2 6) es) (hL : s2 20 = nI es.length) (hL9 : es.length ≤ 102) (hin : ∀ e ∈ es, ml_inn e) (hcut : mc_cut (s2 16) = false) {st : UInt32} (hst : st = FP.fdiv FP.fconst1 (FP.i2f (if s2 16 = 103 then 100 else s2 12))) (hstn : vf_n32 st) (htok : ml_tok st es t2) (k : K none (am_W ha hz a1 s1 t1 (am_u2 a2 3 (mp_cp (a2 7) (a2 3) 3)) s2 (ml_tm st es t2) al ma ms mt ol od)) : am_Run (d + 5) 34 [.ref 27] (am_W ha hz a1 s1 t1 a2 s2 t2 al ma ms mt ol od) K := by
  refine ⟨rfl, fun P hm hP => ?_⟩
  show P 0 [some (.ref 27), none, none, none] [] _ 0 0
  have hst9 : vf_n32 (FP.fdiv FP.fconst1 (FP.i2f (if s2 16 = 103 then 100 else s2 12))) := hst ▸ hstn
  have tail :  P 76 [some (.ref 27), some (.float st), some (.int (nI es.length)), none] [] (am_W ha hz a1 s1 t1 a2 s2 (ml_tm st (es.take es.length) t2) al ma ms mt ol od) 0 0 := by
    skip
    rw [List.take_length]
    have l3 : ∀ (n i : Nat), i ≤ 3 → 4 ≤ i + n → P 78 [some (.ref 27), some (.float st), some (.int (nI i)), none] [] (am_W ha hz a1 s1 t1 (am_u2 a2 3 (mp_cp (a2 7) (a2 3) i)) s2 (ml_tm st es t2) al ma ms mt ol od) 0 0 := by
      intro n
      induction n with
      | zero => intro i h3 h4; omega
      | succ n ih =>
        intro i h3 h4
        refine s_iload_n hP t34_78 rfl ?_
        refine s_iconst (v := 3) hP t34_79 (by decide) ?_
        refine s_icmp_ge hP t34_80 (fun q80 => ?_) (fun q80 => ?_)
        · have e9 : 3 ≤ i := mi_leN (by decide) (by omega) q80
          refine s_return_ hP t34_103 rfl ?_
          obtain rfl : i = 3 := by omega
          exact k 
        · have e9 : i < 3 := mi_nleN (a := 3) (by decide) (by omega) q80
          refine s_aload_n hP t34_83 rfl ?_
          refine s_getfield hP t34_84 rfl rfl ?_
          refine s_iload_n hP t34_87 rfl ?_
          refine s_aload_n hP t34_88 rfl ?_
          refine s_getfield hP t34_89 rfl rfl ?_
          refine s_iload_n hP t34_92 rfl ?_
          refine s_invokevirtual (bc' := 0) (bs' := 0) hP t34_93 rfl rfl rfl rfl rfl ?_
          refine sp45 rfl rfl e9 ?_
          refine s_iastore hP t34_96 rfl (vp_in_nI e9 (by decide)) ?_
          rw [nI_clamp (by omega)]
          refine s_iinc_2 (v := 1) hP t34_97 (by decide) (by exact rfl) ?_
          refine s_goto hP t34_100 ?_
          rw [nI_1]
          exact ih (i + 1) (by omega) (by omega)
    refine s_iconst (v := 0) hP t34_76 (by decide) ?_
    refine s_istore_n_2 hP t34_77 (by exact rfl) ?_
    have l4 := l3 4 0 (by omega) (by omega)
    rw [show am_u2 a2 3 (mp_cp (a2 7) (a2 3) 0) = a2 from am_u2_at] at l4
    exact l4
  have loop : ∀ (n j : Nat) , j ≤ es.length → es.length + 1 ≤ j + n → P 24 [some (.ref 27), some (.float st), some (.int (nI j)), none] [] (am_W ha hz a1 s1 t1 a2 s2 (ml_tm st (es.take j) t2) al ma ms mt ol od) 0 0 := by
    intro n
    induction n with
    | zero => intro j h3 h4; omega
    | succ n ih =>
      intro j h3 h4
      refine s_iload_n hP t34_24 rfl ?_
      refine s_aload_n hP t34_25 rfl ?_
      refine s_getfield hP t34_26 rfl rfl ?_
      refine s_getfield hP t34_29 rfl rfl ?_
      refine s_icmp_ge hP t34_32 (fun q32 => ?_) (fun q32 => ?_)
      · have e32 : es.length ≤ j := by
          rw [show s2 20 = nI es.length from hL] at q32
          exact (nI_leI (by omega) (by omega)).mp q32
        obtain rfl : j = es.length := by omega
        exact tail 
      · have e32 : j < es.length := by
          rw [show s2 20 = nI es.length from hL] at q32
          exact Nat.lt_of_not_le (fun q => q32 ((nI_leI (by omega) (by omega)).mpr q))
        refine s_aload_n hP t34_35 rfl ?_
        refine s_getfield hP t34_36 rfl rfl ?_
        refine s_iload_n hP t34_39 rfl ?_
        refine s_invokevirtual (bc' := 0) (bs' := 0) hP t34_40 rfl rfl rfl rfl rfl ?_
        refine sp46 rfl rfl (by omega) ?_
        obtain ⟨e, he⟩ := ml_lt e32
        obtain ⟨n1, n2⟩ := ml_tok_at htok he
        have hinn := hin e (List.mem_of_getElem? he)
        rw [show mp_steps (a2 6) j = ml_n e from ml_steps hH he, hinn.1]
        refine s_istore_n_3 hP t34_43 (by exact rfl) ?_
        rw [← hinn.1]
        refine s_aload_n hP t34_44 rfl ?_
        refine s_invokevirtual (bc' := 0) (bs' := 0) hP t34_45 rfl rfl rfl rfl rfl ?_
        refine sp21_2 ?_
        rw [show mc_cut (s2 16) = false from hcut]
        refine s_zeq hP t34_48 (fun q48 => ?_) (fun q48 => ?_)
        · refine s_aload_n hP t34_57 rfl ?_
          refine s_aload_n hP t34_58 rfl ?_
          refine s_getfield hP t34_59 rfl rfl ?_
          refine s_iload_n hP t34_62 rfl ?_
          refine s_i2f hP t34_63 ?_
          refine s_fload_n hP t34_64 rfl ?_
          refine s_fmul hP t34_65 n1 ?_
          refine s_fadd hP t34_66 n2 ?_
          refine s_putfield hP t34_67 rfl rfl rfl rfl ?_
          refine s_iinc_2 (v := 1) hP t34_70 (by decide) (by exact rfl) ?_
          refine s_goto hP t34_73 ?_
          rw [← ml_tm_app, ← ml_take he, nI_1]
          refine hm _ _ _ _ _ _ _ (by repeat (first | exact am_le_nil | apply am_le_cons | apply am_le_none)) (ih (j + 1) (by omega) (by omega))
        · cases q48
  refine s_fconst1 hP t34_0 ?_
  refine s_aload_n hP t34_1 rfl ?_
  refine s_getfield hP t34_2 rfl rfl ?_
  refine s_bipush (v := 103) hP t34_5 (by decide) ?_
  refine s_icmp_ne hP t34_7 (fun q7 => ?_) (fun q7 => ?_)
  · rw [if_neg q7] at hst hst9
    refine s_aload_n hP t34_15 rfl ?_
    refine s_getfield hP t34_16 rfl rfl ?_
    refine s_i2f hP t34_19 ?_
    refine s_fdiv hP t34_20 hst9 ?_
    rw [← hst]
    refine s_fstore_n_1 hP t34_21 (by exact rfl) ?_
    refine s_iconst (v := 0) hP t34_22 (by decide) ?_
    refine s_istore_n_2 hP t34_23 (by exact rfl) ?_
    have l9 := loop (es.length + 1) 0 (by omega) (by omega)
    rw [List.take_zero, ml_tm] at l9
    exact l9
  · rw [if_pos q7] at hst hst9
    refine s_bipush (v := 100) hP t34_10 (by decide) ?_
    refine s_goto hP t34_12 ?_
    refine s_i2f hP t34_19 ?_
    refine s_fdiv hP t34_20 hst9 ?_
    rw [← hst]
    refine s_fstore_n_1 hP t34_21 (by exact rfl) ?_
    refine s_iconst (v := 0) hP t34_22 (by decide) ?_
    refine s_istore_n_2 hP t34_23 (by exact rfl) ?_
    have l9 := loop (es.length + 1) 0 (by omega) (by omega)
    rw [List.take_zero, ml_tm] at l9
    exact l9
