/-! LEGS: where a path goes, what meets along it, what is cut along it. (rows by gen/sp10.py) -/
abbrev ml_L : Type := Int32 × Int32 × Int32 × Int32 × Int32 × Int32
def ml_n (e : ml_L) : Int32 := mp_mx (mp_mx (mp_mx 0 (mp_ab e.2.2.2.1)) (mp_ab e.2.2.2.2.1)) (mp_ab e.2.2.2.2.2)
def ml_q (x dx k n : Int32) : Int32 := if n = 0 then 0 else x + dx * k / n
def ml_x (e : ml_L) (k : Nat) : Int32 := ml_q e.1 e.2.2.2.1 (nI k) (ml_n e)
def ml_y (e : ml_L) (k : Nat) : Int32 := ml_q e.2.1 e.2.2.2.2.1 (nI k) (ml_n e)
def ml_z (e : ml_L) (k : Nat) : Int32 := ml_q e.2.2.1 e.2.2.2.2.2 (nI k) (ml_n e)
def ml_N (e : ml_L) : Nat := (ml_n e).toNatClampNeg
/-- the rows of a path hold these legs -/
def ml_hold (f g : Nat → Int32) (es : List ml_L) : Prop := ∀ j e, es[j]? = some e → f (3 * j) = e.1 ∧ f (3 * j + 1) = e.2.1 ∧ f (3 * j + 2) = e.2.2.1 ∧ g (3 * j) = e.2.2.2.1 ∧ g (3 * j + 1) = e.2.2.2.2.1 ∧ g (3 * j + 2) = e.2.2.2.2.2
/-- a leg whose places behind its steps are in the space -/
def ml_inn (e : ml_L) : Prop := ml_n e = nI (ml_N e) ∧ ml_N e < 1000 ∧ ∀ k, 1 ≤ k → k ≤ ml_N e → ∃ X Y Z, X < 16 ∧ Y < 12 ∧ Z < 10 ∧ ml_x e k = nI X ∧ ml_y e k = nI Y ∧ ml_z e k = nI Z
abbrev ml_P : Type := Nat × Nat × Nat
def ml_at (e : ml_L) (k : Nat) : ml_P := ((ml_x e k).toNatClampNeg, (ml_y e k).toNatClampNeg, (ml_z e k).toNatClampNeg)
def ml_re (s R : Nat) (p : ml_P) (q : Nat) : Bool := mr_re s R p.1 p.2.1 p.2.2 q
def ml_hit (S : Nat → Bool) (s R : Nat) (es : List ml_L) : Prop := ∃ e ∈ es, ∃ k, 1 ≤ k ∧ k ≤ ml_N e ∧ ∃ q, q < 1152 ∧ S q = true ∧ ml_re s R (ml_at e k) q = true
def ml_pl (e : ml_L) : Nat → List ml_P
  | 0 => []
  | n + 1 => ml_pl e n ++ [ml_at e (n + 1)]
def ml_cut (s R : Nat) : List ml_P → (Nat → Bool) → Nat → Bool
  | [], S => S
  | p :: r, S => ml_cut s R r (fun q => S q && !ml_re s R p q)
def ml_cc (s R : Nat) : List ml_P → (Nat → Bool) → Nat
  | [], _ => 0
  | p :: r, S => mr_cnt 1152 (fun q => S q && ml_re s R p q) + ml_cc s R r (fun q => S q && !ml_re s R p q)
theorem ml_cut_app {s R : Nat} : ∀ (l m : List ml_P) (S : Nat → Bool), ml_cut s R (l ++ m) S = ml_cut s R m (ml_cut s R l S)
  | [], m, S => rfl
  | p :: l, m, S => ml_cut_app l m _
theorem ml_cc_app {s R : Nat} : ∀ (l m : List ml_P) (S : Nat → Bool), ml_cc s R (l ++ m) S = ml_cc s R l S + ml_cc s R m (ml_cut s R l S)
  | [], m, S => by simp [ml_cc, ml_cut]
  | p :: l, m, S => by
    rw [List.cons_append, ml_cc, ml_cc, ml_cc_app l m _, ml_cut, Nat.add_assoc]
def ml_all : List ml_L → List ml_P
  | [] => []
  | e :: r => ml_pl e (ml_N e) ++ ml_all r
def ml_tm (st : UInt32) : List ml_L → UInt32 → UInt32
  | [], t => t
  | e :: r, t => ml_tm st r (FP.fadd t (FP.fmul (FP.i2f (ml_n e)) st))
def ml_tok (st : UInt32) : List ml_L → UInt32 → Prop
  | [], _ => True
  | e :: r, t => vf_n32 (FP.fmul (FP.i2f (ml_n e)) st) ∧ vf_n32 (FP.fadd t (FP.fmul (FP.i2f (ml_n e)) st)) ∧ ml_tok st r (FP.fadd t (FP.fmul (FP.i2f (ml_n e)) st))
def mc_mv (s : Nat → Int32) (x y z : Int32) : Nat → Int32 := am_u1 (am_u1 (am_u1 s 23 x) 24 y) 25 z
theorem mc_mv_mv {s : Nat → Int32} {x y z u v w : Int32} : mc_mv (mc_mv s x y z) u v w = mc_mv s u v w := by
  funext j
  simp only [mc_mv, am_u1]
  cases Nat.beq j 25 <;> cases Nat.beq j 24 <;> cases Nat.beq j 23 <;> rfl
theorem mc_mv_self {s : Nat → Int32} : mc_mv s (s 23) (s 24) (s 25) = s := by
  funext j
  simp only [mc_mv, am_u1]
  cases h5 : Nat.beq j 25
  · cases h4 : Nat.beq j 24
    · cases h3 : Nat.beq j 23
      · rfl
      · rw [Nat.eq_of_beq_eq_true h3]; rfl
    · rw [Nat.eq_of_beq_eq_true h4]; rfl
  · rw [Nat.eq_of_beq_eq_true h5]; rfl
theorem ml_steps {f g : Nat → Int32} {es : List ml_L} (h : ml_hold f g es) {j : Nat} {e : ml_L} (he : es[j]? = some e) : mp_steps g j = ml_n e := by
  obtain ⟨-, -, -, h1, h2, h3⟩ := h j e he
  simp only [mp_steps, mp_stN, ml_n, Nat.add_zero, h1, h2, h3]
theorem ml_lt {es : List ml_L} {j : Nat} (h : j < es.length) : ∃ e, es[j]? = some e := ⟨es[j], List.getElem?_eq_getElem h⟩
set_option maxHeartbeats 2000000 in
theorem sp31_1 {d : Nat} {K : am_K} {ha : Nat → Nat → Int32} {hz : Int32} {a1 : Nat → Nat → Int32} {s1 : Nat → Int32} {t1 : UInt32} {a2 : Nat → Nat → Int32} {s2 : Nat → Int32} {t2 : UInt32} {al : Int32} {ma : Nat → Nat → Int32} {ms : Nat → Int32} {mt : UInt32} {ol : Nat → Int64} {od : Nat → UInt64} {l : Nat} {x y : Int32} (hl : l < 102) (k : K none (am_W ha hz a1 (mc_mv s1 (if y = 0 then 0 else a1 5 (3 * l + 0) + a1 6 (3 * l + 0) * x / y) (if y = 0 then 0 else a1 5 (3 * l + 1) + a1 6 (3 * l + 1) * x / y) (if y = 0 then 0 else a1 5 (3 * l + 2) + a1 6 (3 * l + 2) * x / y)) t1 a2 s2 t2 al ma ms mt ol od)) : am_Run (d + 2) 31 [.ref 15, .int (nI l), .int x, .int y] (am_W ha hz a1 s1 t1 a2 s2 t2 al ma ms mt ol od) K := by
  refine ⟨rfl, fun P hm hP => ?_⟩
  show P 0 [some (.ref 15), some (.int (nI l)), some (.int x), some (.int y)] [] _ 0 0
  refine s_aload_n hP t31_0 rfl ?_
  refine s_getfield hP t31_1 rfl rfl ?_
  refine s_aload_n hP t31_4 rfl ?_
  refine s_getfield hP t31_5 rfl rfl ?_
  refine s_iload_n hP t31_8 rfl ?_
  refine s_iconst (v := 0) hP t31_9 (by decide) ?_
  refine s_iload_n hP t31_10 rfl ?_
  refine s_iload_n hP t31_11 rfl ?_
  refine s_invokevirtual (bc' := 0) (bs' := 0) hP t31_12 rfl rfl rfl rfl rfl ?_
  refine sp47 (i := 0) rfl rfl rfl hl (by decide) ?_
  refine s_aload_n hP t31_15 rfl ?_
  refine s_getfield hP t31_16 rfl rfl ?_
  refine s_iload_n hP t31_19 rfl ?_
  refine s_iconst (v := 1) hP t31_20 (by decide) ?_
  refine s_iload_n hP t31_21 rfl ?_
  refine s_iload_n hP t31_22 rfl ?_
  refine s_invokevirtual (bc' := 0) (bs' := 0) hP t31_23 rfl rfl rfl rfl rfl ?_
  refine sp47 (i := 1) rfl rfl rfl hl (by decide) ?_
  refine s_aload_n hP t31_26 rfl ?_
  refine s_getfield hP t31_27 rfl rfl ?_
  refine s_iload_n hP t31_30 rfl ?_
  refine s_iconst (v := 2) hP t31_31 (by decide) ?_
  refine s_iload_n hP t31_32 rfl ?_
  refine s_iload_n hP t31_33 rfl ?_
  refine s_invokevirtual (bc' := 0) (bs' := 0) hP t31_34 rfl rfl rfl rfl rfl ?_
  refine sp47 (i := 2) rfl rfl rfl hl (by decide) ?_
  refine s_invokevirtual (bc' := 0) (bs' := 0) hP t31_37 rfl rfl rfl rfl rfl ?_
  refine sp63_1 ?_
  refine s_return_ hP t31_40 rfl ?_
  exact k
theorem sp31_1_e {d : Nat} {K : am_K} {ha : Nat → Nat → Int32} {hz : Int32} {a1 : Nat → Nat → Int32} {s1 : Nat → Int32} {t1 : UInt32} {a2 : Nat → Nat → Int32} {s2 : Nat → Int32} {t2 : UInt32} {al : Int32} {ma : Nat → Nat → Int32} {ms : Nat → Int32} {mt : UInt32} {ol : Nat → Int64} {od : Nat → UInt64} {es : List ml_L} (hH : ml_hold (a1 5) (a1 6) es) (hL : s1 20 = nI es.length) (hL9 : es.length ≤ 102) {j k : Nat} {N : Nat} {e : ml_L} (he : es[j]? = some e) (hN : ml_n e = nI N) (k9 : K none (am_W ha hz a1 (mc_mv s1 (ml_x e k) (ml_y e k) (ml_z e k)) t1 a2 s2 t2 al ma ms mt ol od)) : am_Run (d + 2) 31 [.ref 15, .int (nI j), .int (nI k), .int (nI N)] (am_W ha hz a1 s1 t1 a2 s2 t2 al ma ms mt ol od) K := by
  rw [← hN]
  have hj : j < es.length := (List.getElem?_eq_some_iff.mp he).1
  refine sp31_1 (l := j) (x := nI k) (y := ml_n e) (by omega) ?_
  obtain ⟨h1, h2, h3, h4, h5, h6⟩ := hH j e he
  rw [Nat.add_zero, h1, h2, h3, h4, h5, h6]
  exact k9
set_option maxHeartbeats 1000000 in
theorem sp29_1f {d : Nat} {K : am_K} {ha : Nat → Nat → Int32} {hz : Int32} {a1 : Nat → Nat → Int32} {s1 : Nat → Int32} {t1 : UInt32} {a2 : Nat → Nat → Int32} {s2 : Nat → Int32} {t2 : UInt32} {al : Int32} {ma : Nat → Nat → Int32} {ms : Nat → Int32} {mt : UInt32} {ol : Nat → Int64} {od : Nat → UInt64} {es : List ml_L} (hH : ml_hold (a1 5) (a1 6) es) (hL : s1 20 = nI es.length) (hL9 : es.length ≤ 102) {S : Nat → Bool} {sh R : Nat} (hS : ∀ j, j < 72 → ha 3 j = mr_w (fun q => S (16 * j + q))) (hsl : ¬ s1 10 = -1) (hs1 : s1 21 = nI sh) (hs2 : s1 22 = nI R) (hsh : sh = 101 ∨ sh = 98 ∨ sh = 118) (hR : R < 4) (hin : ∀ e ∈ es, ml_inn e) (k : ∀ (v : Bool) (x y z : Int32), (v = true ↔ ml_hit S sh R es) → K (some (.int (am_b v))) (am_W ha hz a1 (mc_mv s1 x y z) t1 a2 s2 t2 al ma ms mt ol od)) : am_Run (d + 4) 29 [.ref 15, .ref 6] (am_W ha hz a1 s1 t1 a2 s2 t2 al ma ms mt ol od) K := by
  refine ⟨rfl, fun P hm hP => ?_⟩
  show P 0 [some (.ref 15), some (.ref 6), none, none, none] [] _ 0 0
  have loop : ∀ (n j : Nat) (x y z : Int32), j ≤ es.length → es.length + 1 ≤ j + n → (∀ j2 e2, j2 < j → es[j2]? = some e2 → ∀ i2, 1 ≤ i2 → i2 ≤ ml_N e2 → ¬ ∃ q, q < 1152 ∧ S q = true ∧ ml_re sh R (ml_at e2 i2) q = true) → P 12 [some (.ref 15), some (.ref 6), some (.int (nI j)), none, none] [] (am_W ha hz a1 (mc_mv s1 x y z) t1 a2 s2 t2 al ma ms mt ol od) 0 0 := by
    intro n
    induction n with
    | zero => intro j x y z h3 h4; omega
    | succ n ih =>
      intro j x y z h3 h4 hno
      refine s_iload_n hP t29_12 rfl ?_
      refine s_aload_n hP t29_13 rfl ?_
      refine s_getfield hP t29_14 rfl rfl ?_
      refine s_getfield hP t29_17 rfl rfl ?_
      refine s_icmp_ge hP t29_20 (fun q20 => ?_) (fun q20 => ?_)
      · have e20 : es.length ≤ j := by
          rw [show (mc_mv s1 x y z) 20 = nI es.length from hL] at q20
          exact (nI_leI (by omega) (by omega)).mp q20
        refine s_iconst (v := 0) hP t29_74 (by decide) ?_
        refine s_ireturn hP t29_75 rfl rfl ?_
        exact k false x y z ⟨fun q => (by cases q), fun ⟨e2, h5, i2, h6, h7, h8⟩ => by
          obtain ⟨j2, h9⟩ := List.getElem?_of_mem h5
          exact absurd h8 (hno j2 e2 (by have := (List.getElem?_eq_some_iff.mp h9).1; omega) h9 i2 h6 h7)⟩
      · have e20 : j < es.length := by
          rw [show (mc_mv s1 x y z) 20 = nI es.length from hL] at q20
          exact Nat.lt_of_not_le (fun q => q20 ((nI_leI (by omega) (by omega)).mpr q))
        refine s_aload_n hP t29_23 rfl ?_
        refine s_getfield hP t29_24 rfl rfl ?_
        refine s_iload_n hP t29_27 rfl ?_
        refine s_invokevirtual (bc' := 0) (bs' := 0) hP t29_28 rfl rfl rfl rfl rfl ?_
        refine sp46 rfl rfl (by omega) ?_
        obtain ⟨e, he⟩ := ml_lt e20
        obtain ⟨hn1, hn2, hi3⟩ := hin e (List.mem_of_getElem? he)
        rw [ml_steps hH he, hn1]
        refine s_istore_n_3 hP t29_31 (by exact rfl) ?_
        refine s_iconst (v := 1) hP t29_32 (by decide) ?_
        refine s_istore_4 hP t29_33 (by exact rfl) ?_
        have inner : ∀ (n2 i : Nat) (x y z : Int32), 1 ≤ i → i ≤ ml_N e + 1 → ml_N e + 2 ≤ i + n2 → (∀ i2, 1 ≤ i2 → i2 < i → ¬ ∃ q, q < 1152 ∧ S q = true ∧ ml_re sh R (ml_at e i2) q = true) → P 35 [some (.ref 15), some (.ref 6), some (.int (nI j)), some (.int (nI (ml_N e))), some (.int (nI i))] [] (am_W ha hz a1 (mc_mv s1 x y z) t1 a2 s2 t2 al ma ms mt ol od) 0 0 := by
          intro n2
          induction n2 with
          | zero => intro i x y z h3 h4 h5; omega
          | succ n2 ih2 =>
            intro i x y z hi1 h4 h5 hno2
            refine s_iload hP t29_35 rfl ?_
            refine s_iload_n hP t29_37 rfl ?_
            refine s_icmp_gt hP t29_38 (fun q38 => ?_) (fun q38 => ?_)
            · have e38 : ml_N e < i := Nat.lt_of_not_le (fun q => Int32.not_le.mpr q38 ((nI_leI (by omega) (by omega)).mpr q))
              refine s_iinc_2 (v := 1) hP t29_68 (by decide) (by exact rfl) ?_
              refine s_goto hP t29_71 ?_
              rw [nI_1]
              refine hm _ _ _ _ _ _ _ (by repeat (first | exact am_le_nil | apply am_le_cons | apply am_le_none)) (ih (j + 1) _ _ _ (by omega) (by omega) (fun j2 e2 h5 h6 => by
                by_cases h7 : j2 = j
                · subst h7
                  cases he.symm.trans h6
                  intro i2 h8 h9
                  exact hno2 i2 h8 (by omega)
                · exact hno j2 e2 (by omega) h6))
            · have e38 : i ≤ ml_N e := (nI_leI (by omega) (by omega)).mp (Int32.not_lt.mp q38)
              refine s_aload_n hP t29_41 rfl ?_
              refine s_iload_n hP t29_42 rfl ?_
              refine s_iload hP t29_43 rfl ?_
              refine s_iload_n hP t29_45 rfl ?_
              refine s_invokevirtual (bc' := 0) (bs' := 0) hP t29_46 rfl rfl rfl rfl rfl ?_
              refine sp31_1_e (es := es) (s1 := (mc_mv s1 x y z)) (k := i) hH hL (by omega) he hn1 ?_
              rw [mc_mv_mv]
              obtain ⟨X, Y, Z, hX, hY, hZ, eX, eY, eZ⟩ := hi3 i hi1 e38
              rw [eX, eY, eZ]
              refine s_aload_n hP t29_49 rfl ?_
              refine s_aload_n hP t29_50 rfl ?_
              refine s_getfield hP t29_51 rfl rfl ?_
              refine s_invokevirtual (bc' := 0) (bs' := 0) hP t29_54 rfl rfl rfl rfl rfl ?_
              refine sp8 (S := S) (s := sh) (R := R) (X := X) (Y := Y) (Z := Z) rfl rfl hS ?_ hsh hR hX hY hZ (fun v hv => ?_)
              · rw [← hs1, ← hs2]
                rfl
              have eat : ml_at e i = (X, Y, Z) := by rw [ml_at, eX, eY, eZ, nI_clamp (by omega), nI_clamp (by omega), nI_clamp (by omega)]
              refine s_zeq hP t29_57 (fun q57 => ?_) (fun q57 => ?_)
              · refine s_iinc_4 (v := 1) hP t29_62 (by decide) (by exact rfl) ?_
                refine s_goto hP t29_65 ?_
                rw [nI_1]
                exact ih2 (i + 1) _ _ _ (by omega) (by omega) (by omega) (fun i2 h5 h6 => by
                  by_cases h7 : i2 = i
                  · subst h7
                    rintro ⟨q, h8, h9, h10⟩
                    rw [ml_re, eat] at h10
                    rw [hv.mpr ⟨q, h8, h9, h10⟩] at q57
                    cases q57
                  · exact hno2 i2 h5 (by omega))
              · refine s_iconst (v := 1) hP t29_60 (by decide) ?_
                refine s_ireturn hP t29_61 rfl rfl ?_
                obtain ⟨q, h5, h6, h7⟩ := hv.mp q57
                exact k true _ _ _ ⟨fun _ => ⟨e, List.mem_of_getElem? he, i, hi1, e38, q, h5, h6, by rw [ml_re, eat]; exact h7⟩, fun _ => rfl⟩
        exact inner (ml_N e + 1) 1 x y z (Nat.le_refl _) (by omega) (by omega) (fun i2 h5 h6 => by omega)
  refine s_aload_n hP t29_0 rfl ?_
  refine s_getfield hP t29_1 rfl rfl ?_
  refine s_iconst (v := (-1)) hP t29_4 (by decide) ?_
  refine s_icmp_ne hP t29_5 (fun q5 => ?_) (fun q5 => ?_)
  · refine s_iconst (v := 0) hP t29_10 (by decide) ?_
    refine s_istore_n_2 hP t29_11 (by exact rfl) ?_
    have l9 := loop (es.length + 1) 0 (s1 23) (s1 24) (s1 25) (by omega) (by omega) (fun j2 e2 h5 h6 => by omega)
    rw [mc_mv_self] at l9
    exact l9
  · exact absurd q5 hsl
set_option maxHeartbeats 1000000 in
theorem sp29_1f0 {d : Nat} {K : am_K} {ha : Nat → Nat → Int32} {hz : Int32} {a1 : Nat → Nat → Int32} {s1 : Nat → Int32} {t1 : UInt32} {a2 : Nat → Nat → Int32} {s2 : Nat → Int32} {t2 : UInt32} {al : Int32} {ma : Nat → Nat → Int32} {ms : Nat → Int32} {mt : UInt32} {ol : Nat → Int64} {od : Nat → UInt64} (hsl : s1 10 = -1) (k : K (some (.int 0)) (am_W ha hz a1 s1 t1 a2 s2 t2 al ma ms mt ol od)) : am_Run (d + 1) 29 [.ref 15, .ref 6] (am_W ha hz a1 s1 t1 a2 s2 t2 al ma ms mt ol od) K := by
  refine ⟨rfl, fun P hm hP => ?_⟩
  show P 0 [some (.ref 15), some (.ref 6), none, none, none] [] _ 0 0
  refine s_aload_n hP t29_0 rfl ?_
  refine s_getfield hP t29_1 rfl rfl ?_
  refine s_iconst (v := (-1)) hP t29_4 (by decide) ?_
  refine s_icmp_ne hP t29_5 (fun q5 => ?_) (fun q5 => ?_)
  · exact absurd hsl q5
  · refine s_iconst (v := 0) hP t29_8 (by decide) ?_
    refine s_ireturn hP t29_9 rfl rfl ?_
    exact k
set_option maxHeartbeats 1000000 in
theorem sp29_1s {d : Nat} {K : am_K} {ha : Nat → Nat → Int32} {hz : Int32} {a1 : Nat → Nat → Int32} {s1 : Nat → Int32} {t1 : UInt32} {a2 : Nat → Nat → Int32} {s2 : Nat → Int32} {t2 : UInt32} {al : Int32} {ma : Nat → Nat → Int32} {ms : Nat → Int32} {mt : UInt32} {ol : Nat → Int64} {od : Nat → UInt64} {es : List ml_L} (hH : ml_hold (a1 5) (a1 6) es) (hL : s1 20 = nI es.length) (hL9 : es.length ≤ 102) {S : Nat → Bool} {sh R : Nat} (hS : ∀ j, j < 72 → a1 0 j = mr_w (fun q => S (16 * j + q))) (hsl : ¬ s1 10 = -1) (hs1 : s1 21 = nI sh) (hs2 : s1 22 = nI R) (hsh : sh = 101 ∨ sh = 98 ∨ sh = 118) (hR : R < 4) (hin : ∀ e ∈ es, ml_inn e) (k : ∀ (v : Bool) (x y z : Int32), (v = true ↔ ml_hit S sh R es) → K (some (.int (am_b v))) (am_W ha hz a1 (mc_mv s1 x y z) t1 a2 s2 t2 al ma ms mt ol od)) : am_Run (d + 4) 29 [.ref 15, .ref 16] (am_W ha hz a1 s1 t1 a2 s2 t2 al ma ms mt ol od) K := by
  refine ⟨rfl, fun P hm hP => ?_⟩
  show P 0 [some (.ref 15), some (.ref 16), none, none, none] [] _ 0 0
  have loop : ∀ (n j : Nat) (x y z : Int32), j ≤ es.length → es.length + 1 ≤ j + n → (∀ j2 e2, j2 < j → es[j2]? = some e2 → ∀ i2, 1 ≤ i2 → i2 ≤ ml_N e2 → ¬ ∃ q, q < 1152 ∧ S q = true ∧ ml_re sh R (ml_at e2 i2) q = true) → P 12 [some (.ref 15), some (.ref 16), some (.int (nI j)), none, none] [] (am_W ha hz a1 (mc_mv s1 x y z) t1 a2 s2 t2 al ma ms mt ol od) 0 0 := by
    intro n
    induction n with
    | zero => intro j x y z h3 h4; omega
    | succ n ih =>
      intro j x y z h3 h4 hno
      refine s_iload_n hP t29_12 rfl ?_
      refine s_aload_n hP t29_13 rfl ?_
      refine s_getfield hP t29_14 rfl rfl ?_
      refine s_getfield hP t29_17 rfl rfl ?_
      refine s_icmp_ge hP t29_20 (fun q20 => ?_) (fun q20 => ?_)
      · have e20 : es.length ≤ j := by
          rw [show (mc_mv s1 x y z) 20 = nI es.length from hL] at q20
          exact (nI_leI (by omega) (by omega)).mp q20
        refine s_iconst (v := 0) hP t29_74 (by decide) ?_
        refine s_ireturn hP t29_75 rfl rfl ?_
        exact k false x y z ⟨fun q => (by cases q), fun ⟨e2, h5, i2, h6, h7, h8⟩ => by
          obtain ⟨j2, h9⟩ := List.getElem?_of_mem h5
          exact absurd h8 (hno j2 e2 (by have := (List.getElem?_eq_some_iff.mp h9).1; omega) h9 i2 h6 h7)⟩
      · have e20 : j < es.length := by
          rw [show (mc_mv s1 x y z) 20 = nI es.length from hL] at q20
          exact Nat.lt_of_not_le (fun q => q20 ((nI_leI (by omega) (by omega)).mpr q))
        refine s_aload_n hP t29_23 rfl ?_
        refine s_getfield hP t29_24 rfl rfl ?_
        refine s_iload_n hP t29_27 rfl ?_
        refine s_invokevirtual (bc' := 0) (bs' := 0) hP t29_28 rfl rfl rfl rfl rfl ?_
        refine sp46 rfl rfl (by omega) ?_
        obtain ⟨e, he⟩ := ml_lt e20
        obtain ⟨hn1, hn2, hi3⟩ := hin e (List.mem_of_getElem? he)
        rw [ml_steps hH he, hn1]
        refine s_istore_n_3 hP t29_31 (by exact rfl) ?_
        refine s_iconst (v := 1) hP t29_32 (by decide) ?_
        refine s_istore_4 hP t29_33 (by exact rfl) ?_
        have inner : ∀ (n2 i : Nat) (x y z : Int32), 1 ≤ i → i ≤ ml_N e + 1 → ml_N e + 2 ≤ i + n2 → (∀ i2, 1 ≤ i2 → i2 < i → ¬ ∃ q, q < 1152 ∧ S q = true ∧ ml_re sh R (ml_at e i2) q = true) → P 35 [some (.ref 15), some (.ref 16), some (.int (nI j)), some (.int (nI (ml_N e))), some (.int (nI i))] [] (am_W ha hz a1 (mc_mv s1 x y z) t1 a2 s2 t2 al ma ms mt ol od) 0 0 := by
          intro n2
          induction n2 with
          | zero => intro i x y z h3 h4 h5; omega
          | succ n2 ih2 =>
            intro i x y z hi1 h4 h5 hno2
            refine s_iload hP t29_35 rfl ?_
            refine s_iload_n hP t29_37 rfl ?_
            refine s_icmp_gt hP t29_38 (fun q38 => ?_) (fun q38 => ?_)
            · have e38 : ml_N e < i := Nat.lt_of_not_le (fun q => Int32.not_le.mpr q38 ((nI_leI (by omega) (by omega)).mpr q))
              refine s_iinc_2 (v := 1) hP t29_68 (by decide) (by exact rfl) ?_
              refine s_goto hP t29_71 ?_
              rw [nI_1]
              refine hm _ _ _ _ _ _ _ (by repeat (first | exact am_le_nil | apply am_le_cons | apply am_le_none)) (ih (j + 1) _ _ _ (by omega) (by omega) (fun j2 e2 h5 h6 => by
                by_cases h7 : j2 = j
                · subst h7
                  cases he.symm.trans h6
                  intro i2 h8 h9
                  exact hno2 i2 h8 (by omega)
                · exact hno j2 e2 (by omega) h6))
            · have e38 : i ≤ ml_N e := (nI_leI (by omega) (by omega)).mp (Int32.not_lt.mp q38)
              refine s_aload_n hP t29_41 rfl ?_
              refine s_iload_n hP t29_42 rfl ?_
              refine s_iload hP t29_43 rfl ?_
              refine s_iload_n hP t29_45 rfl ?_
              refine s_invokevirtual (bc' := 0) (bs' := 0) hP t29_46 rfl rfl rfl rfl rfl ?_
              refine sp31_1_e (es := es) (s1 := (mc_mv s1 x y z)) (k := i) hH hL (by omega) he hn1 ?_
              rw [mc_mv_mv]
              obtain ⟨X, Y, Z, hX, hY, hZ, eX, eY, eZ⟩ := hi3 i hi1 e38
              rw [eX, eY, eZ]
              refine s_aload_n hP t29_49 rfl ?_
              refine s_aload_n hP t29_50 rfl ?_
              refine s_getfield hP t29_51 rfl rfl ?_
              refine s_invokevirtual (bc' := 0) (bs' := 0) hP t29_54 rfl rfl rfl rfl rfl ?_
              refine sp8 (S := S) (s := sh) (R := R) (X := X) (Y := Y) (Z := Z) rfl rfl hS ?_ hsh hR hX hY hZ (fun v hv => ?_)
              · rw [← hs1, ← hs2]
                rfl
              have eat : ml_at e i = (X, Y, Z) := by rw [ml_at, eX, eY, eZ, nI_clamp (by omega), nI_clamp (by omega), nI_clamp (by omega)]
              refine s_zeq hP t29_57 (fun q57 => ?_) (fun q57 => ?_)
              · refine s_iinc_4 (v := 1) hP t29_62 (by decide) (by exact rfl) ?_
                refine s_goto hP t29_65 ?_
                rw [nI_1]
                exact ih2 (i + 1) _ _ _ (by omega) (by omega) (by omega) (fun i2 h5 h6 => by
                  by_cases h7 : i2 = i
                  · subst h7
                    rintro ⟨q, h8, h9, h10⟩
                    rw [ml_re, eat] at h10
                    rw [hv.mpr ⟨q, h8, h9, h10⟩] at q57
                    cases q57
                  · exact hno2 i2 h5 (by omega))
              · refine s_iconst (v := 1) hP t29_60 (by decide) ?_
                refine s_ireturn hP t29_61 rfl rfl ?_
                obtain ⟨q, h5, h6, h7⟩ := hv.mp q57
                exact k true _ _ _ ⟨fun _ => ⟨e, List.mem_of_getElem? he, i, hi1, e38, q, h5, h6, by rw [ml_re, eat]; exact h7⟩, fun _ => rfl⟩
        exact inner (ml_N e + 1) 1 x y z (Nat.le_refl _) (by omega) (by omega) (fun i2 h5 h6 => by omega)
  refine s_aload_n hP t29_0 rfl ?_
  refine s_getfield hP t29_1 rfl rfl ?_
  refine s_iconst (v := (-1)) hP t29_4 (by decide) ?_
  refine s_icmp_ne hP t29_5 (fun q5 => ?_) (fun q5 => ?_)
  · refine s_iconst (v := 0) hP t29_10 (by decide) ?_
    refine s_istore_n_2 hP t29_11 (by exact rfl) ?_
    have l9 := loop (es.length + 1) 0 (s1 23) (s1 24) (s1 25) (by omega) (by omega) (fun j2 e2 h5 h6 => by omega)
    rw [mc_mv_self] at l9
    exact l9
  · exact absurd q5 hsl
set_option maxHeartbeats 1000000 in
theorem sp29_1s0 {d : Nat} {K : am_K} {ha : Nat → Nat → Int32} {hz : Int32} {a1 : Nat → Nat → Int32} {s1 : Nat → Int32} {t1 : UInt32} {a2 : Nat → Nat → Int32} {s2 : Nat → Int32} {t2 : UInt32} {al : Int32} {ma : Nat → Nat → Int32} {ms : Nat → Int32} {mt : UInt32} {ol : Nat → Int64} {od : Nat → UInt64} (hsl : s1 10 = -1) (k : K (some (.int 0)) (am_W ha hz a1 s1 t1 a2 s2 t2 al ma ms mt ol od)) : am_Run (d + 1) 29 [.ref 15, .ref 16] (am_W ha hz a1 s1 t1 a2 s2 t2 al ma ms mt ol od) K := by
  refine ⟨rfl, fun P hm hP => ?_⟩
  show P 0 [some (.ref 15), some (.ref 16), none, none, none] [] _ 0 0
  refine s_aload_n hP t29_0 rfl ?_
  refine s_getfield hP t29_1 rfl rfl ?_
  refine s_iconst (v := (-1)) hP t29_4 (by decide) ?_
  refine s_icmp_ne hP t29_5 (fun q5 => ?_) (fun q5 => ?_)
  · exact absurd hsl q5
  · refine s_iconst (v := 0) hP t29_8 (by decide) ?_
    refine s_ireturn hP t29_9 rfl rfl ?_
    exact k
set_option maxHeartbeats 2000000 in
theorem sp31_2 {d : Nat} {K : am_K} {ha : Nat → Nat → Int32} {hz : Int32} {a1 : Nat → Nat → Int32} {s1 : Nat → Int32} {t1 : UInt32} {a2 : Nat → Nat → Int32} {s2 : Nat → Int32} {t2 : UInt32} {al : Int32} {ma : Nat → Nat → Int32} {ms : Nat → Int32} {mt : UInt32} {ol : Nat → Int64} {od : Nat → UInt64} {l : Nat} {x y : Int32} (hl : l < 102) (k : K none (am_W ha hz a1 s1 t1 a2 (mc_mv s2 (if y = 0 then 0 else a2 5 (3 * l + 0) + a2 6 (3 * l + 0) * x / y) (if y = 0 then 0 else a2 5 (3 * l + 1) + a2 6 (3 * l + 1) * x / y) (if y = 0 then 0 else a2 5 (3 * l + 2) + a2 6 (3 * l + 2) * x / y)) t2 al ma ms mt ol od)) : am_Run (d + 2) 31 [.ref 27, .int (nI l), .int x, .int y] (am_W ha hz a1 s1 t1 a2 s2 t2 al ma ms mt ol od) K := by
  refine ⟨rfl, fun P hm hP => ?_⟩
  show P 0 [some (.ref 27), some (.int (nI l)), some (.int x), some (.int y)] [] _ 0 0
  refine s_aload_n hP t31_0 rfl ?_
  refine s_getfield hP t31_1 rfl rfl ?_
  refine s_aload_n hP t31_4 rfl ?_
  refine s_getfield hP t31_5 rfl rfl ?_
  refine s_iload_n hP t31_8 rfl ?_
  refine s_iconst (v := 0) hP t31_9 (by decide) ?_
  refine s_iload_n hP t31_10 rfl ?_
  refine s_iload_n hP t31_11 rfl ?_
  refine s_invokevirtual (bc' := 0) (bs' := 0) hP t31_12 rfl rfl rfl rfl rfl ?_
  refine sp47 (i := 0) rfl rfl rfl hl (by decide) ?_
  refine s_aload_n hP t31_15 rfl ?_
  refine s_getfield hP t31_16 rfl rfl ?_
  refine s_iload_n hP t31_19 rfl ?_
  refine s_iconst (v := 1) hP t31_20 (by decide) ?_
  refine s_iload_n hP t31_21 rfl ?_
  refine s_iload_n hP t31_22 rfl ?_
  refine s_invokevirtual (bc' := 0) (bs' := 0) hP t31_23 rfl rfl rfl rfl rfl ?_
  refine sp47 (i := 1) rfl rfl rfl hl (by decide) ?_
  refine s_aload_n hP t31_26 rfl ?_
  refine s_getfield hP t31_27 rfl rfl ?_
  refine s_iload_n hP t31_30 rfl ?_
  refine s_iconst (v := 2) hP t31_31 (by decide) ?_
  refine s_iload_n hP t31_32 rfl ?_
  refine s_iload_n hP t31_33 rfl ?_
  refine s_invokevirtual (bc' := 0) (bs' := 0) hP t31_34 rfl rfl rfl rfl rfl ?_
  refine sp47 (i := 2) rfl rfl rfl hl (by decide) ?_
  refine s_invokevirtual (bc' := 0) (bs' := 0) hP t31_37 rfl rfl rfl rfl rfl ?_
  refine sp63_2 ?_
  refine s_return_ hP t31_40 rfl ?_
  exact k
theorem sp31_2_e {d : Nat} {K : am_K} {ha : Nat → Nat → Int32} {hz : Int32} {a1 : Nat → Nat → Int32} {s1 : Nat → Int32} {t1 : UInt32} {a2 : Nat → Nat → Int32} {s2 : Nat → Int32} {t2 : UInt32} {al : Int32} {ma : Nat → Nat → Int32} {ms : Nat → Int32} {mt : UInt32} {ol : Nat → Int64} {od : Nat → UInt64} {es : List ml_L} (hH : ml_hold (a2 5) (a2 6) es) (hL : s2 20 = nI es.length) (hL9 : es.length ≤ 102) {j k : Nat} {N : Nat} {e : ml_L} (he : es[j]? = some e) (hN : ml_n e = nI N) (k9 : K none (am_W ha hz a1 s1 t1 a2 (mc_mv s2 (ml_x e k) (ml_y e k) (ml_z e k)) t2 al ma ms mt ol od)) : am_Run (d + 2) 31 [.ref 27, .int (nI j), .int (nI k), .int (nI N)] (am_W ha hz a1 s1 t1 a2 s2 t2 al ma ms mt ol od) K := by
  rw [← hN]
  have hj : j < es.length := (List.getElem?_eq_some_iff.mp he).1
  refine sp31_2 (l := j) (x := nI k) (y := ml_n e) (by omega) ?_
  obtain ⟨h1, h2, h3, h4, h5, h6⟩ := hH j e he
  rw [Nat.add_zero, h1, h2, h3, h4, h5, h6]
  exact k9
set_option maxHeartbeats 1000000 in
theorem sp29_2f {d : Nat} {K : am_K} {ha : Nat → Nat → Int32} {hz : Int32} {a1 : Nat → Nat → Int32} {s1 : Nat → Int32} {t1 : UInt32} {a2 : Nat → Nat → Int32} {s2 : Nat → Int32} {t2 : UInt32} {al : Int32} {ma : Nat → Nat → Int32} {ms : Nat → Int32} {mt : UInt32} {ol : Nat → Int64} {od : Nat → UInt64} {es : List ml_L} (hH : ml_hold (a2 5) (a2 6) es) (hL : s2 20 = nI es.length) (hL9 : es.length ≤ 102) {S : Nat → Bool} {sh R : Nat} (hS : ∀ j, j < 72 → ha 3 j = mr_w (fun q => S (16 * j + q))) (hsl : ¬ s2 10 = -1) (hs1 : s2 21 = nI sh) (hs2 : s2 22 = nI R) (hsh : sh = 101 ∨ sh = 98 ∨ sh = 118) (hR : R < 4) (hin : ∀ e ∈ es, ml_inn e) (k : ∀ (v : Bool) (x y z : Int32), (v = true ↔ ml_hit S sh R es) → K (some (.int (am_b v))) (am_W ha hz a1 s1 t1 a2 (mc_mv s2 x y z) t2 al ma ms mt ol od)) : am_Run (d + 4) 29 [.ref 27, .ref 6] (am_W ha hz a1 s1 t1 a2 s2 t2 al ma ms mt ol od) K := by
  refine ⟨rfl, fun P hm hP => ?_⟩
  show P 0 [some (.ref 27), some (.ref 6), none, none, none] [] _ 0 0
  have loop : ∀ (n j : Nat) (x y z : Int32), j ≤ es.length → es.length + 1 ≤ j + n → (∀ j2 e2, j2 < j → es[j2]? = some e2 → ∀ i2, 1 ≤ i2 → i2 ≤ ml_N e2 → ¬ ∃ q, q < 1152 ∧ S q = true ∧ ml_re sh R (ml_at e2 i2) q = true) → P 12 [some (.ref 27), some (.ref 6), some (.int (nI j)), none, none] [] (am_W ha hz a1 s1 t1 a2 (mc_mv s2 x y z) t2 al ma ms mt ol od) 0 0 := by
    intro n
    induction n with
    | zero => intro j x y z h3 h4; omega
    | succ n ih =>
      intro j x y z h3 h4 hno
      refine s_iload_n hP t29_12 rfl ?_
      refine s_aload_n hP t29_13 rfl ?_
      refine s_getfield hP t29_14 rfl rfl ?_
      refine s_getfield hP t29_17 rfl rfl ?_
      refine s_icmp_ge hP t29_20 (fun q20 => ?_) (fun q20 => ?_)
      · have e20 : es.length ≤ j := by
          rw [show (mc_mv s2 x y z) 20 = nI es.length from hL] at q20
          exact (nI_leI (by omega) (by omega)).mp q20
        refine s_iconst (v := 0) hP t29_74 (by decide) ?_
        refine s_ireturn hP t29_75 rfl rfl ?_
        exact k false x y z ⟨fun q => (by cases q), fun ⟨e2, h5, i2, h6, h7, h8⟩ => by
          obtain ⟨j2, h9⟩ := List.getElem?_of_mem h5
          exact absurd h8 (hno j2 e2 (by have := (List.getElem?_eq_some_iff.mp h9).1; omega) h9 i2 h6 h7)⟩
      · have e20 : j < es.length := by
          rw [show (mc_mv s2 x y z) 20 = nI es.length from hL] at q20
          exact Nat.lt_of_not_le (fun q => q20 ((nI_leI (by omega) (by omega)).mpr q))
        refine s_aload_n hP t29_23 rfl ?_
        refine s_getfield hP t29_24 rfl rfl ?_
        refine s_iload_n hP t29_27 rfl ?_
        refine s_invokevirtual (bc' := 0) (bs' := 0) hP t29_28 rfl rfl rfl rfl rfl ?_
        refine sp46 rfl rfl (by omega) ?_
        obtain ⟨e, he⟩ := ml_lt e20
        obtain ⟨hn1, hn2, hi3⟩ := hin e (List.mem_of_getElem? he)
        rw [ml_steps hH he, hn1]
        refine s_istore_n_3 hP t29_31 (by exact rfl) ?_
        refine s_iconst (v := 1) hP t29_32 (by decide) ?_
        refine s_istore_4 hP t29_33 (by exact rfl) ?_
        have inner : ∀ (n2 i : Nat) (x y z : Int32), 1 ≤ i → i ≤ ml_N e + 1 → ml_N e + 2 ≤ i + n2 → (∀ i2, 1 ≤ i2 → i2 < i → ¬ ∃ q, q < 1152 ∧ S q = true ∧ ml_re sh R (ml_at e i2) q = true) → P 35 [some (.ref 27), some (.ref 6), some (.int (nI j)), some (.int (nI (ml_N e))), some (.int (nI i))] [] (am_W ha hz a1 s1 t1 a2 (mc_mv s2 x y z) t2 al ma ms mt ol od) 0 0 := by
          intro n2
          induction n2 with
          | zero => intro i x y z h3 h4 h5; omega
          | succ n2 ih2 =>
            intro i x y z hi1 h4 h5 hno2
            refine s_iload hP t29_35 rfl ?_
            refine s_iload_n hP t29_37 rfl ?_
            refine s_icmp_gt hP t29_38 (fun q38 => ?_) (fun q38 => ?_)
            · have e38 : ml_N e < i := Nat.lt_of_not_le (fun q => Int32.not_le.mpr q38 ((nI_leI (by omega) (by omega)).mpr q))
              refine s_iinc_2 (v := 1) hP t29_68 (by decide) (by exact rfl) ?_
              refine s_goto hP t29_71 ?_
              rw [nI_1]
              refine hm _ _ _ _ _ _ _ (by repeat (first | exact am_le_nil | apply am_le_cons | apply am_le_none)) (ih (j + 1) _ _ _ (by omega) (by omega) (fun j2 e2 h5 h6 => by
                by_cases h7 : j2 = j
                · subst h7
                  cases he.symm.trans h6
                  intro i2 h8 h9
                  exact hno2 i2 h8 (by omega)
                · exact hno j2 e2 (by omega) h6))
            · have e38 : i ≤ ml_N e := (nI_leI (by omega) (by omega)).mp (Int32.not_lt.mp q38)
              refine s_aload_n hP t29_41 rfl ?_
              refine s_iload_n hP t29_42 rfl ?_
              refine s_iload hP t29_43 rfl ?_
              refine s_iload_n hP t29_45 rfl ?_
              refine s_invokevirtual (bc' := 0) (bs' := 0) hP t29_46 rfl rfl rfl rfl rfl ?_
              refine sp31_2_e (es := es) (s2 := (mc_mv s2 x y z)) (k := i) hH hL (by omega) he hn1 ?_
              rw [mc_mv_mv]
              obtain ⟨X, Y, Z, hX, hY, hZ, eX, eY, eZ⟩ := hi3 i hi1 e38
              rw [eX, eY, eZ]
              refine s_aload_n hP t29_49 rfl ?_
              refine s_aload_n hP t29_50 rfl ?_
              refine s_getfield hP t29_51 rfl rfl ?_
              refine s_invokevirtual (bc' := 0) (bs' := 0) hP t29_54 rfl rfl rfl rfl rfl ?_
              refine sp8 (S := S) (s := sh) (R := R) (X := X) (Y := Y) (Z := Z) rfl rfl hS ?_ hsh hR hX hY hZ (fun v hv => ?_)
              · rw [← hs1, ← hs2]
                rfl
              have eat : ml_at e i = (X, Y, Z) := by rw [ml_at, eX, eY, eZ, nI_clamp (by omega), nI_clamp (by omega), nI_clamp (by omega)]
              refine s_zeq hP t29_57 (fun q57 => ?_) (fun q57 => ?_)
              · refine s_iinc_4 (v := 1) hP t29_62 (by decide) (by exact rfl) ?_
                refine s_goto hP t29_65 ?_
                rw [nI_1]
                exact ih2 (i + 1) _ _ _ (by omega) (by omega) (by omega) (fun i2 h5 h6 => by
                  by_cases h7 : i2 = i
                  · subst h7
                    rintro ⟨q, h8, h9, h10⟩
                    rw [ml_re, eat] at h10
                    rw [hv.mpr ⟨q, h8, h9, h10⟩] at q57
                    cases q57
                  · exact hno2 i2 h5 (by omega))
              · refine s_iconst (v := 1) hP t29_60 (by decide) ?_
                refine s_ireturn hP t29_61 rfl rfl ?_
                obtain ⟨q, h5, h6, h7⟩ := hv.mp q57
                exact k true _ _ _ ⟨fun _ => ⟨e, List.mem_of_getElem? he, i, hi1, e38, q, h5, h6, by rw [ml_re, eat]; exact h7⟩, fun _ => rfl⟩
        exact inner (ml_N e + 1) 1 x y z (Nat.le_refl _) (by omega) (by omega) (fun i2 h5 h6 => by omega)
  refine s_aload_n hP t29_0 rfl ?_
  refine s_getfield hP t29_1 rfl rfl ?_
  refine s_iconst (v := (-1)) hP t29_4 (by decide) ?_
  refine s_icmp_ne hP t29_5 (fun q5 => ?_) (fun q5 => ?_)
  · refine s_iconst (v := 0) hP t29_10 (by decide) ?_
    refine s_istore_n_2 hP t29_11 (by exact rfl) ?_
    have l9 := loop (es.length + 1) 0 (s2 23) (s2 24) (s2 25) (by omega) (by omega) (fun j2 e2 h5 h6 => by omega)
    rw [mc_mv_self] at l9
    exact l9
  · exact absurd q5 hsl
set_option maxHeartbeats 1000000 in
theorem sp29_2f0 {d : Nat} {K : am_K} {ha : Nat → Nat → Int32} {hz : Int32} {a1 : Nat → Nat → Int32} {s1 : Nat → Int32} {t1 : UInt32} {a2 : Nat → Nat → Int32} {s2 : Nat → Int32} {t2 : UInt32} {al : Int32} {ma : Nat → Nat → Int32} {ms : Nat → Int32} {mt : UInt32} {ol : Nat → Int64} {od : Nat → UInt64} (hsl : s2 10 = -1) (k : K (some (.int 0)) (am_W ha hz a1 s1 t1 a2 s2 t2 al ma ms mt ol od)) : am_Run (d + 1) 29 [.ref 27, .ref 6] (am_W ha hz a1 s1 t1 a2 s2 t2 al ma ms mt ol od) K := by
  refine ⟨rfl, fun P hm hP => ?_⟩
  show P 0 [some (.ref 27), some (.ref 6), none, none, none] [] _ 0 0
  refine s_aload_n hP t29_0 rfl ?_
  refine s_getfield hP t29_1 rfl rfl ?_
  refine s_iconst (v := (-1)) hP t29_4 (by decide) ?_
  refine s_icmp_ne hP t29_5 (fun q5 => ?_) (fun q5 => ?_)
  · exact absurd hsl q5
  · refine s_iconst (v := 0) hP t29_8 (by decide) ?_
    refine s_ireturn hP t29_9 rfl rfl ?_
    exact k
set_option maxHeartbeats 1000000 in
theorem sp29_2s {d : Nat} {K : am_K} {ha : Nat → Nat → Int32} {hz : Int32} {a1 : Nat → Nat → Int32} {s1 : Nat → Int32} {t1 : UInt32} {a2 : Nat → Nat → Int32} {s2 : Nat → Int32} {t2 : UInt32} {al : Int32} {ma : Nat → Nat → Int32} {ms : Nat → Int32} {mt : UInt32} {ol : Nat → Int64} {od : Nat → UInt64} {es : List ml_L} (hH : ml_hold (a2 5) (a2 6) es) (hL : s2 20 = nI es.length) (hL9 : es.length ≤ 102) {S : Nat → Bool} {sh R : Nat} (hS : ∀ j, j < 72 → a2 0 j = mr_w (fun q => S (16 * j + q))) (hsl : ¬ s2 10 = -1) (hs1 : s2 21 = nI sh) (hs2 : s2 22 = nI R) (hsh : sh = 101 ∨ sh = 98 ∨ sh = 118) (hR : R < 4) (hin : ∀ e ∈ es, ml_inn e) (k : ∀ (v : Bool) (x y z : Int32), (v = true ↔ ml_hit S sh R es) → K (some (.int (am_b v))) (am_W ha hz a1 s1 t1 a2 (mc_mv s2 x y z) t2 al ma ms mt ol od)) : am_Run (d + 4) 29 [.ref 27, .ref 28] (am_W ha hz a1 s1 t1 a2 s2 t2 al ma ms mt ol od) K := by
  refine ⟨rfl, fun P hm hP => ?_⟩
  show P 0 [some (.ref 27), some (.ref 28), none, none, none] [] _ 0 0
  have loop : ∀ (n j : Nat) (x y z : Int32), j ≤ es.length → es.length + 1 ≤ j + n → (∀ j2 e2, j2 < j → es[j2]? = some e2 → ∀ i2, 1 ≤ i2 → i2 ≤ ml_N e2 → ¬ ∃ q, q < 1152 ∧ S q = true ∧ ml_re sh R (ml_at e2 i2) q = true) → P 12 [some (.ref 27), some (.ref 28), some (.int (nI j)), none, none] [] (am_W ha hz a1 s1 t1 a2 (mc_mv s2 x y z) t2 al ma ms mt ol od) 0 0 := by
    intro n
    induction n with
    | zero => intro j x y z h3 h4; omega
    | succ n ih =>
      intro j x y z h3 h4 hno
      refine s_iload_n hP t29_12 rfl ?_
      refine s_aload_n hP t29_13 rfl ?_
      refine s_getfield hP t29_14 rfl rfl ?_
      refine s_getfield hP t29_17 rfl rfl ?_
      refine s_icmp_ge hP t29_20 (fun q20 => ?_) (fun q20 => ?_)
      · have e20 : es.length ≤ j := by
          rw [show (mc_mv s2 x y z) 20 = nI es.length from hL] at q20
          exact (nI_leI (by omega) (by omega)).mp q20
        refine s_iconst (v := 0) hP t29_74 (by decide) ?_
        refine s_ireturn hP t29_75 rfl rfl ?_
        exact k false x y z ⟨fun q => (by cases q), fun ⟨e2, h5, i2, h6, h7, h8⟩ => by
          obtain ⟨j2, h9⟩ := List.getElem?_of_mem h5
          exact absurd h8 (hno j2 e2 (by have := (List.getElem?_eq_some_iff.mp h9).1; omega) h9 i2 h6 h7)⟩
      · have e20 : j < es.length := by
          rw [show (mc_mv s2 x y z) 20 = nI es.length from hL] at q20
          exact Nat.lt_of_not_le (fun q => q20 ((nI_leI (by omega) (by omega)).mpr q))
        refine s_aload_n hP t29_23 rfl ?_
        refine s_getfield hP t29_24 rfl rfl ?_
        refine s_iload_n hP t29_27 rfl ?_
        refine s_invokevirtual (bc' := 0) (bs' := 0) hP t29_28 rfl rfl rfl rfl rfl ?_
        refine sp46 rfl rfl (by omega) ?_
        obtain ⟨e, he⟩ := ml_lt e20
        obtain ⟨hn1, hn2, hi3⟩ := hin e (List.mem_of_getElem? he)
        rw [ml_steps hH he, hn1]
        refine s_istore_n_3 hP t29_31 (by exact rfl) ?_
        refine s_iconst (v := 1) hP t29_32 (by decide) ?_
        refine s_istore_4 hP t29_33 (by exact rfl) ?_
        have inner : ∀ (n2 i : Nat) (x y z : Int32), 1 ≤ i → i ≤ ml_N e + 1 → ml_N e + 2 ≤ i + n2 → (∀ i2, 1 ≤ i2 → i2 < i → ¬ ∃ q, q < 1152 ∧ S q = true ∧ ml_re sh R (ml_at e i2) q = true) → P 35 [some (.ref 27), some (.ref 28), some (.int (nI j)), some (.int (nI (ml_N e))), some (.int (nI i))] [] (am_W ha hz a1 s1 t1 a2 (mc_mv s2 x y z) t2 al ma ms mt ol od) 0 0 := by
          intro n2
          induction n2 with
          | zero => intro i x y z h3 h4 h5; omega
          | succ n2 ih2 =>
            intro i x y z hi1 h4 h5 hno2
            refine s_iload hP t29_35 rfl ?_
            refine s_iload_n hP t29_37 rfl ?_
            refine s_icmp_gt hP t29_38 (fun q38 => ?_) (fun q38 => ?_)
            · have e38 : ml_N e < i := Nat.lt_of_not_le (fun q => Int32.not_le.mpr q38 ((nI_leI (by omega) (by omega)).mpr q))
              refine s_iinc_2 (v := 1) hP t29_68 (by decide) (by exact rfl) ?_
              refine s_goto hP t29_71 ?_
              rw [nI_1]
              refine hm _ _ _ _ _ _ _ (by repeat (first | exact am_le_nil | apply am_le_cons | apply am_le_none)) (ih (j + 1) _ _ _ (by omega) (by omega) (fun j2 e2 h5 h6 => by
                by_cases h7 : j2 = j
                · subst h7
                  cases he.symm.trans h6
                  intro i2 h8 h9
                  exact hno2 i2 h8 (by omega)
                · exact hno j2 e2 (by omega) h6))
            · have e38 : i ≤ ml_N e := (nI_leI (by omega) (by omega)).mp (Int32.not_lt.mp q38)
              refine s_aload_n hP t29_41 rfl ?_
              refine s_iload_n hP t29_42 rfl ?_
              refine s_iload hP t29_43 rfl ?_
              refine s_iload_n hP t29_45 rfl ?_
              refine s_invokevirtual (bc' := 0) (bs' := 0) hP t29_46 rfl rfl rfl rfl rfl ?_
              refine sp31_2_e (es := es) (s2 := (mc_mv s2 x y z)) (k := i) hH hL (by omega) he hn1 ?_
              rw [mc_mv_mv]
              obtain ⟨X, Y, Z, hX, hY, hZ, eX, eY, eZ⟩ := hi3 i hi1 e38
              rw [eX, eY, eZ]
              refine s_aload_n hP t29_49 rfl ?_
              refine s_aload_n hP t29_50 rfl ?_
              refine s_getfield hP t29_51 rfl rfl ?_
              refine s_invokevirtual (bc' := 0) (bs' := 0) hP t29_54 rfl rfl rfl rfl rfl ?_
              refine sp8 (S := S) (s := sh) (R := R) (X := X) (Y := Y) (Z := Z) rfl rfl hS ?_ hsh hR hX hY hZ (fun v hv => ?_)
              · rw [← hs1, ← hs2]
                rfl
              have eat : ml_at e i = (X, Y, Z) := by rw [ml_at, eX, eY, eZ, nI_clamp (by omega), nI_clamp (by omega), nI_clamp (by omega)]
              refine s_zeq hP t29_57 (fun q57 => ?_) (fun q57 => ?_)
              · refine s_iinc_4 (v := 1) hP t29_62 (by decide) (by exact rfl) ?_
                refine s_goto hP t29_65 ?_
                rw [nI_1]
                exact ih2 (i + 1) _ _ _ (by omega) (by omega) (by omega) (fun i2 h5 h6 => by
                  by_cases h7 : i2 = i
                  · subst h7
                    rintro ⟨q, h8, h9, h10⟩
                    rw [ml_re, eat] at h10
                    rw [hv.mpr ⟨q, h8, h9, h10⟩] at q57
                    cases q57
                  · exact hno2 i2 h5 (by omega))
              · refine s_iconst (v := 1) hP t29_60 (by decide) ?_
                refine s_ireturn hP t29_61 rfl rfl ?_
                obtain ⟨q, h5, h6, h7⟩ := hv.mp q57
                exact k true _ _ _ ⟨fun _ => ⟨e, List.mem_of_getElem? he, i, hi1, e38, q, h5, h6, by rw [ml_re, eat]; exact h7⟩, fun _ => rfl⟩
        exact inner (ml_N e + 1) 1 x y z (Nat.le_refl _) (by omega) (by omega) (fun i2 h5 h6 => by omega)
  refine s_aload_n hP t29_0 rfl ?_
  refine s_getfield hP t29_1 rfl rfl ?_
  refine s_iconst (v := (-1)) hP t29_4 (by decide) ?_
  refine s_icmp_ne hP t29_5 (fun q5 => ?_) (fun q5 => ?_)
  · refine s_iconst (v := 0) hP t29_10 (by decide) ?_
    refine s_istore_n_2 hP t29_11 (by exact rfl) ?_
    have l9 := loop (es.length + 1) 0 (s2 23) (s2 24) (s2 25) (by omega) (by omega) (fun j2 e2 h5 h6 => by omega)
    rw [mc_mv_self] at l9
    exact l9
  · exact absurd q5 hsl
set_option maxHeartbeats 1000000 in
theorem sp29_2s0 {d : Nat} {K : am_K} {ha : Nat → Nat → Int32} {hz : Int32} {a1 : Nat → Nat → Int32} {s1 : Nat → Int32} {t1 : UInt32} {a2 : Nat → Nat → Int32} {s2 : Nat → Int32} {t2 : UInt32} {al : Int32} {ma : Nat → Nat → Int32} {ms : Nat → Int32} {mt : UInt32} {ol : Nat → Int64} {od : Nat → UInt64} (hsl : s2 10 = -1) (k : K (some (.int 0)) (am_W ha hz a1 s1 t1 a2 s2 t2 al ma ms mt ol od)) : am_Run (d + 1) 29 [.ref 27, .ref 28] (am_W ha hz a1 s1 t1 a2 s2 t2 al ma ms mt ol od) K := by
  refine ⟨rfl, fun P hm hP => ?_⟩
  show P 0 [some (.ref 27), some (.ref 28), none, none, none] [] _ 0 0
  refine s_aload_n hP t29_0 rfl ?_
  refine s_getfield hP t29_1 rfl rfl ?_
  refine s_iconst (v := (-1)) hP t29_4 (by decide) ?_
  refine s_icmp_ne hP t29_5 (fun q5 => ?_) (fun q5 => ?_)
  · exact absurd hsl q5
  · refine s_iconst (v := 0) hP t29_8 (by decide) ?_
    refine s_ireturn hP t29_9 rfl rfl ?_
    exact k
