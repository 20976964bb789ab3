/-! HOW A PATH IS PLANNED. (rows by gen/sp12.py) -/
def mk_one (x y z u v w : Int32) : ml_L := (x, y, z, u - x, v - y, w - z)
def mq_a (a : Nat → Nat → Int32) (f g e : Nat → Int32) : Nat → Nat → Int32 := am_u2 (am_u2 (am_u2 a 5 f) 6 g) 7 e
def mq_s (s : Nat → Int32) (L : Nat) : Nat → Int32 := am_u1 s 20 (nI L)
theorem mq_a_a {a : Nat → Nat → Int32} {f g e f' g' : Nat → Int32} : am_u2 (am_u2 (mq_a a f g e) 5 f') 6 g' = mq_a a f' g' e := by
  funext j
  simp only [mq_a, am_u2]
  cases h7 : Nat.beq j 7
  · cases Nat.beq j 6 <;> cases Nat.beq j 5 <;> rfl
  · rw [Nat.eq_of_beq_eq_true h7]; rfl
theorem mq_a_e {a : Nat → Nat → Int32} {f g e e' : Nat → Int32} : am_u2 (mq_a a f g e) 7 e' = mq_a a f g e' := by
  funext j
  simp only [mq_a, am_u2]
  cases Nat.beq j 7 <;> rfl
theorem mq_a_self {a : Nat → Nat → Int32} : mq_a a (a 5) (a 6) (a 7) = a := by
  unfold mq_a
  rw [am_u2_at]
  funext j
  simp only [am_u2]
  cases h7 : Nat.beq j 7
  · cases h6 : Nat.beq j 6
    · rfl
    · rw [Nat.eq_of_beq_eq_true h6]; rfl
  · rw [Nat.eq_of_beq_eq_true h7]; rfl
theorem mq_s_s {s : Nat → Int32} {L : Nat} {v : Int32} : am_u1 (mq_s s L) 20 v = am_u1 s 20 v := by
  funext j
  simp only [mq_s, am_u1]
  cases Nat.beq j 20 <;> rfl
theorem mp_3_ne {f : Nat → Int32} {k j : Nat} {x y z : Int32} (h : j < k ∨ k + 3 ≤ j) : mp_3 f k x y z j = f j := by
  unfold mp_3
  rw [show upd _ (k + 2) z j = _ from pk_un (by omega), show upd _ (k + 1) y j = _ from pk_un (by omega), show upd f k x j = f j from pk_un (by omega)]
theorem mp_3_0 {f : Nat → Int32} {k : Nat} {x y z : Int32} : mp_3 f k x y z k = x := by
  unfold mp_3
  rw [show upd _ (k + 2) z k = _ from pk_un (by omega), show upd _ (k + 1) y k = _ from pk_un (by omega), show upd f k x k = x from pk_us]
theorem mp_3_1 {f : Nat → Int32} {k : Nat} {x y z : Int32} : mp_3 f k x y z (k + 1) = y := by
  unfold mp_3
  rw [show upd _ (k + 2) z (k + 1) = _ from pk_un (by omega), show upd _ (k + 1) y (k + 1) = y from pk_us]
theorem mp_3_2 {f : Nat → Int32} {k : Nat} {x y z : Int32} : mp_3 f k x y z (k + 2) = z := by
  unfold mp_3
  rw [show upd _ (k + 2) z (k + 2) = z from pk_us]
theorem ml_hold_push {f g : Nat → Int32} {es : List ml_L} {x y z u v w : Int32} (h : ml_hold f g es) : ml_hold (mp_3 f (3 * es.length) x y z) (mp_3 g (3 * es.length) (u - x) (v - y) (w - z)) (es ++ [mk_one x y z u v w]) := by
  intro j e he
  by_cases hj : j < es.length
  · rw [List.getElem?_append_left hj] at he
    obtain ⟨h1, h2, h3, h4, h5, h6⟩ := h j e he
    rw [mp_3_ne (by omega), mp_3_ne (by omega), mp_3_ne (by omega), mp_3_ne (by omega), mp_3_ne (by omega), mp_3_ne (by omega)]
    exact ⟨h1, h2, h3, h4, h5, h6⟩
  · rw [List.getElem?_append_right (by omega)] at he
    have hz : j - es.length < 1 := (List.getElem?_eq_some_iff.mp he).1
    obtain rfl : j = es.length := by omega
    rw [Nat.sub_self] at he
    cases he
    exact ⟨mp_3_0, mp_3_1, mp_3_2, mp_3_0, mp_3_1, mp_3_2⟩
theorem ml_hold_nil {f g : Nat → Int32} : ml_hold f g [] := fun j e he => by simp at he
/-- the depths of a drilling: i, i + 1 .. times B below A, and A -/
def ml_deps (A B : Nat) : Nat → Nat → List Nat
  | 0, _ => [A]
  | n + 1, i => if i * B < A then (i * B) :: ml_deps A B n (i + 1) else [A]
def ml_down (x y z : Int32) (D : Nat) : ml_L := mk_one x y z x y (z - nI D)
def ml_px (near far : Int32) (i : Nat) : Int32 := if i % 2 = 0 then far else near
def ml_pk (near far y z : Int32) : Nat → List ml_L
  | 0 => []
  | i + 1 => ml_pk near far y z i ++ [mk_one (ml_px near far i) (y + nI i) z (ml_px near far i) (y + nI i + 1) z, mk_one (ml_px near far i) (y + nI i + 1) z (ml_px near far (i + 1)) (y + nI i + 1) z]
theorem ml_pk_len {near far y z : Int32} : ∀ i, (ml_pk near far y z i).length = 2 * i
  | 0 => rfl
  | i + 1 => by rw [ml_pk, List.length_append, ml_pk_len i]; simp; omega
theorem ml_px_next {near far : Int32} (i : Nat) : ml_px near far (i + 1) = if ml_px near far i = near then far else near := by
  unfold ml_px
  rcases Nat.mod_two_eq_zero_or_one i with h | h
  · rw [if_neg (by omega), if_pos h]
    split
    · rename_i q; exact q.symm
    · rfl
  · have h1 : (i + 1) % 2 = 0 := by omega
    have h2 : ¬ i % 2 = 0 := by omega
    rw [if_pos h1, if_neg h2, if_pos rfl]
/-- the legs of a block, and the place behind it -/
def ml_legs (k : Int32) (a b c : Int32) (x y z u v w : Int32) : List ml_L :=
  if k = 103 ∨ k = 108 then [mk_one x y z (u + a) (v + b) (w + c)]
  else if k = 100 then (ml_deps a.toNatClampNeg b.toNatClampNeg a.toNatClampNeg 1).map (ml_down x y z)
  else if k = 112 then [ml_down x y z c.toNatClampNeg, mk_one x y (z - c) (x + a) y (z - c)] ++ ml_pk x (x + a) y (z - c) b.toNatClampNeg
  else []
def ml_ex (k a b : Int32) (x u : Int32) : Int32 := if k = 103 ∨ k = 108 then u + a else if k = 112 then ml_px x (x + a) b.toNatClampNeg else x
def ml_ey (k b : Int32) (y v : Int32) : Int32 := if k = 103 ∨ k = 108 then v + b else if k = 112 then y + b else y
def ml_ez (k c : Int32) (z w : Int32) : Int32 := if k = 103 ∨ k = 108 then w + c else z
theorem ml_deps_len {A B : Nat} : ∀ n i, (ml_deps A B n i).length ≤ n + 1
  | 0, i => by simp [ml_deps]
  | n + 1, i => by
    rw [ml_deps]
    split
    · rw [List.length_cons]; have := ml_deps_len (A := A) (B := B) n (i + 1); omega
    · simp
theorem sp43_1_e {d : Nat} {K : am_K} {ha : Nat → Nat → Int32} {hz : Int32} {a1 : Nat → Nat → Int32} {s1 : Nat → Int32} {t1 : UInt32} {a2 : Nat → Nat → Int32} {s2 : Nat → Int32} {t2 : UInt32} {al : Int32} {ma : Nat → Nat → Int32} {ms : Nat → Int32} {mt : UInt32} {ol : Nat → Int64} {od : Nat → UInt64} {f g e : Nat → Int32} {es : List ml_L} {L : Nat} {x y z u v w : Int32} (hH : ml_hold f g es) (hL : es.length = L) (hL9 : L < 102) (k : ∀ f' g' : Nat → Int32, ml_hold f' g' (es ++ [mk_one x y z u v w]) → K none (am_W ha hz (mq_a a1 f' g' e) (mq_s s1 (L + 1)) t1 a2 s2 t2 al ma ms mt ol od)) : am_Run (d + 1) 43 [.ref 22, .int x, .int y, .int z, .int u, .int v, .int w] (am_W ha hz (mq_a a1 f g e) (mq_s s1 L) t1 a2 s2 t2 al ma ms mt ol od) K := by
  subst hL
  refine sp43_1 (a1 := mq_a a1 f g e) (s1 := mq_s s1 es.length) (L := es.length) rfl hL9 ?_
  have k9 := k _ _ (ml_hold_push (x := x) (y := y) (z := z) (u := u) (v := v) (w := w) hH)
  rw [mq_s_s, show am_u2 (am_u2 (mq_a a1 f g e) 5 (mp_3 ((mq_a a1 f g e) 5) (3 * es.length) x y z)) 6 (mp_3 ((mq_a a1 f g e) 6) (3 * es.length) (u - x) (v - y) (w - z)) = mq_a a1 (mp_3 f (3 * es.length) x y z) (mp_3 g (3 * es.length) (u - x) (v - y) (w - z)) e from mq_a_a]
  exact k9
set_option maxHeartbeats 2000000 in
theorem sp28_1 {d : Nat} {K : am_K} {ha : Nat → Nat → Int32} {hz : Int32} {a1 : Nat → Nat → Int32} {s1 : Nat → Int32} {t1 : UInt32} {a2 : Nat → Nat → Int32} {s2 : Nat → Int32} {t2 : UInt32} {al : Int32} {ma : Nat → Nat → Int32} {ms : Nat → Int32} {mt : UInt32} {ol : Nat → Int64} {od : Nat → UInt64} {f g e : Nat → Int32} {es : List ml_L} {L : Nat} {x : Int32} (hH : ml_hold f g es) (hL : es.length = L) (hL9 : L < 102) (k : ∀ f' g' : Nat → Int32, ml_hold f' g' (es ++ [mk_one (a1 3 0) (a1 3 1) (a1 3 2) (a1 3 0) (a1 3 1) ((a1 3 2) - x)]) → K none (am_W ha hz (mq_a a1 f' g' e) (mq_s s1 (L + 1)) t1 a2 s2 t2 al ma ms mt ol od)) : am_Run (d + 2) 28 [.ref 15, .int x] (am_W ha hz (mq_a a1 f g e) (mq_s s1 L) t1 a2 s2 t2 al ma ms mt ol od) K := by
  refine ⟨rfl, fun P hm hP => ?_⟩
  show P 0 [some (.ref 15), some (.int x)] [] _ 0 0
  refine s_aload_n hP t28_0 rfl ?_
  refine s_getfield hP t28_1 rfl rfl ?_
  refine s_aload_n hP t28_4 rfl ?_
  refine s_getfield hP t28_5 rfl rfl ?_
  refine s_iconst (v := 0) hP t28_8 (by decide) ?_
  refine s_iaload hP t28_9 rfl (vp_in_nI (n := 0) (by decide) (by decide)) ?_
  refine s_aload_n hP t28_10 rfl ?_
  refine s_getfield hP t28_11 rfl rfl ?_
  refine s_iconst (v := 1) hP t28_14 (by decide) ?_
  refine s_iaload hP t28_15 rfl (vp_in_nI (n := 1) (by decide) (by decide)) ?_
  refine s_aload_n hP t28_16 rfl ?_
  refine s_getfield hP t28_17 rfl rfl ?_
  refine s_iconst (v := 2) hP t28_20 (by decide) ?_
  refine s_iaload hP t28_21 rfl (vp_in_nI (n := 2) (by decide) (by decide)) ?_
  refine s_aload_n hP t28_22 rfl ?_
  refine s_getfield hP t28_23 rfl rfl ?_
  refine s_iconst (v := 0) hP t28_26 (by decide) ?_
  refine s_iaload hP t28_27 rfl (vp_in_nI (n := 0) (by decide) (by decide)) ?_
  refine s_aload_n hP t28_28 rfl ?_
  refine s_getfield hP t28_29 rfl rfl ?_
  refine s_iconst (v := 1) hP t28_32 (by decide) ?_
  refine s_iaload hP t28_33 rfl (vp_in_nI (n := 1) (by decide) (by decide)) ?_
  refine s_aload_n hP t28_34 rfl ?_
  refine s_getfield hP t28_35 rfl rfl ?_
  refine s_iconst (v := 2) hP t28_38 (by decide) ?_
  refine s_iaload hP t28_39 rfl (vp_in_nI (n := 2) (by decide) (by decide)) ?_
  refine s_iload_n hP t28_40 rfl ?_
  refine s_isub hP t28_41 ?_
  refine s_invokevirtual (bc' := 0) (bs' := 0) hP t28_42 rfl rfl rfl rfl rfl ?_
  refine sp43_1_e (a1 := a1) (s1 := s1) (f := f) (g := g) (e := e) hH hL hL9 (fun f9 g9 h9 => ?_)
  refine s_return_ hP t28_45 rfl ?_
  exact k f9 g9 h9
set_option maxHeartbeats 400000 in
theorem sp26_1 {d : Nat} {K : am_K} {ha : Nat → Nat → Int32} {hz : Int32} {a1 : Nat → Nat → Int32} {s1 : Nat → Int32} {t1 : UInt32} {a2 : Nat → Nat → Int32} {s2 : Nat → Int32} {t2 : UInt32} {al : Int32} {ma : Nat → Nat → Int32} {ms : Nat → Int32} {mt : UInt32} {ol : Nat → Int64} {od : Nat → UInt64} {f g e : Nat → Int32} {A B : Nat} (hA : s1 17 = nI A) (hB : s1 18 = nI B) (hA5 : A ≤ 50) (hB1 : 1 ≤ B) (hB5 : B ≤ 50) (k : ∀ f' g' : Nat → Int32, ml_hold f' g' ((ml_deps A B A 1).map (ml_down (a1 3 0) (a1 3 1) (a1 3 2))) → K none (am_W ha hz (mq_a a1 f' g' e) (mq_s s1 ((ml_deps A B A 1).map (ml_down (a1 3 0) (a1 3 1) (a1 3 2))).length) t1 a2 s2 t2 al ma ms mt ol od)) : am_Run (d + 3) 26 [.ref 15] (am_W ha hz (mq_a a1 f g e) (mq_s s1 0) t1 a2 s2 t2 al ma ms mt ol od) K := by
  refine ⟨rfl, fun P hm hP => ?_⟩
  show P 0 [some (.ref 15), none] [] _ 0 0
  have loop : ∀ (n i L : Nat) (f g : Nat → Int32) (es : List ml_L), ml_hold f g es → es.length = L → A + 2 ≤ i + n → L + 1 = i → i ≤ A + 1 → (ml_deps A B A 1).map (ml_down (a1 3 0) (a1 3 1) (a1 3 2)) = es ++ (ml_deps A B (A + 1 - i) i).map (ml_down (a1 3 0) (a1 3 1) (a1 3 2)) → P 2 [some (.ref 15), some (.int (nI i))] [] (am_W ha hz (mq_a a1 f g e) (mq_s s1 L) t1 a2 s2 t2 al ma ms mt ol od) 0 0 := by
    intro n
    induction n with
    | zero => intro i L f g es hH hL h3 h4 h5; omega
    | succ n ih =>
      intro i L f g es hH hL h3 h4 h5 hes
      refine s_iload_n hP t26_2 rfl ?_
      refine s_aload_n hP t26_3 rfl ?_
      refine s_getfield hP t26_4 rfl rfl ?_
      refine s_icmp_ge hP t26_7 (fun q7 => ?_) (fun q7 => ?_)
      · have e7 : A ≤ i * B := by
          rw [show (mq_s s1 L) 17 = nI A from hA] at q7
          have := (nI_leI (by omega) (by omega)).mp q7
          exact Nat.le_trans this (Nat.le_mul_of_pos_right _ (by omega))
        refine s_aload_n hP t26_39 rfl ?_
        refine s_aload_n hP t26_40 rfl ?_
        refine s_getfield hP t26_41 rfl rfl ?_
        rw [show (mq_s s1 L) 17 = nI A from hA]
        refine s_invokevirtual (bc' := 0) (bs' := 0) hP t26_44 rfl rfl rfl rfl rfl ?_
        refine sp28_1 (a1 := a1) (s1 := s1) hH hL (by omega) (fun f9 g9 h9 => ?_)
        refine s_return_ hP t26_47 rfl ?_
        have e9 : es ++ [ml_down (a1 3 0) (a1 3 1) (a1 3 2) A] = (ml_deps A B A 1).map (ml_down (a1 3 0) (a1 3 1) (a1 3 2)) := by
          rw [hes]
          by_cases hn0 : A + 1 - i = 0
          · rw [hn0]; rfl
          · rw [show A + 1 - i = (A - i) + 1 by omega, ml_deps, if_neg (by omega)]; rfl
        have h9' : ml_hold f9 g9 ((ml_deps A B A 1).map (ml_down (a1 3 0) (a1 3 1) (a1 3 2))) := by rw [← e9]; exact h9
        have k9 := k f9 g9 h9'
        rw [← e9, List.length_append, hL] at k9
        exact k9
      · have e7 : i < A := by
          rw [show (mq_s s1 L) 17 = nI A from hA] at q7
          exact Nat.lt_of_not_le (fun q => q7 ((nI_leI (by omega) (by omega)).mpr q))
        have hiB : i * B < 2 ^ 31 := Nat.lt_of_le_of_lt (Nat.mul_le_mul (show i ≤ 50 by omega) hB5) (by decide)
        refine s_iload_n hP t26_10 rfl ?_
        refine s_aload_n hP t26_11 rfl ?_
        refine s_getfield hP t26_12 rfl rfl ?_
        refine s_imul hP t26_15 ?_
        refine s_aload_n hP t26_16 rfl ?_
        refine s_getfield hP t26_17 rfl rfl ?_
        refine s_icmp_ge hP t26_20 (fun q20 => ?_) (fun q20 => ?_)
        · have e7 : A ≤ i * B := by
            rw [show (mq_s s1 L) 18 = nI B from hB, show (mq_s s1 L) 17 = nI A from hA, pk_mul] at q20
            exact (nI_leI (by omega) hiB).mp q20
          refine s_aload_n hP t26_39 rfl ?_
          refine s_aload_n hP t26_40 rfl ?_
          refine s_getfield hP t26_41 rfl rfl ?_
          rw [show (mq_s s1 L) 17 = nI A from hA]
          refine s_invokevirtual (bc' := 0) (bs' := 0) hP t26_44 rfl rfl rfl rfl rfl ?_
          refine sp28_1 (a1 := a1) (s1 := s1) hH hL (by omega) (fun f9 g9 h9 => ?_)
          refine s_return_ hP t26_47 rfl ?_
          have e9 : es ++ [ml_down (a1 3 0) (a1 3 1) (a1 3 2) A] = (ml_deps A B A 1).map (ml_down (a1 3 0) (a1 3 1) (a1 3 2)) := by
            rw [hes]
            by_cases hn0 : A + 1 - i = 0
            · rw [hn0]; rfl
            · rw [show A + 1 - i = (A - i) + 1 by omega, ml_deps, if_neg (by omega)]; rfl
          have h9' : ml_hold f9 g9 ((ml_deps A B A 1).map (ml_down (a1 3 0) (a1 3 1) (a1 3 2))) := by rw [← e9]; exact h9
          have k9 := k f9 g9 h9'
          rw [← e9, List.length_append, hL] at k9
          exact k9
        · have e20 : i * B < A := by
            rw [show (mq_s s1 L) 18 = nI B from hB, show (mq_s s1 L) 17 = nI A from hA, pk_mul] at q20
            exact Nat.lt_of_not_le (fun q => q20 ((nI_leI (by omega) hiB).mpr q))
          refine s_aload_n hP t26_23 rfl ?_
          refine s_iload_n hP t26_24 rfl ?_
          refine s_aload_n hP t26_25 rfl ?_
          refine s_getfield hP t26_26 rfl rfl ?_
          refine s_imul hP t26_29 ?_
          rw [show (mq_s s1 L) 18 = nI B from hB, pk_mul]
          refine s_invokevirtual (bc' := 0) (bs' := 0) hP t26_30 rfl rfl rfl rfl rfl ?_
          refine sp28_1 (a1 := a1) (s1 := s1) hH hL (by omega) (fun f9 g9 h9 => ?_)
          refine s_iinc_1 (v := 1) hP t26_33 (by decide) (by exact rfl) ?_
          refine s_goto hP t26_36 ?_
          rw [nI_1]
          refine ih (i + 1) (L + 1) f9 g9 (es ++ [ml_down (a1 3 0) (a1 3 1) (a1 3 2) (i * B)]) h9 (by rw [List.length_append, hL]; rfl) (by omega) (by omega) (by omega) (by
            rw [hes, List.append_assoc, show A + 1 - i = (A + 1 - (i + 1)) + 1 by omega, ml_deps, if_pos e20]
            rfl)
  refine s_iconst (v := 1) hP t26_0 (by decide) ?_
  refine s_istore_n_1 hP t26_1 (by exact rfl) ?_
  exact loop (A + 2) 1 0 f g [] ml_hold_nil rfl (by omega) rfl (by omega) rfl
set_option maxHeartbeats 400000 in
theorem sp27_1 {d : Nat} {K : am_K} {ha : Nat → Nat → Int32} {hz : Int32} {a1 : Nat → Nat → Int32} {s1 : Nat → Int32} {t1 : UInt32} {a2 : Nat → Nat → Int32} {s2 : Nat → Int32} {t2 : UInt32} {al : Int32} {ma : Nat → Nat → Int32} {ms : Nat → Int32} {mt : UInt32} {ol : Nat → Int64} {od : Nat → UInt64} {f g e : Nat → Int32} {A B C : Nat} (hA : s1 17 = nI A) (hB : s1 18 = nI B) (hC : s1 19 = nI C) (hB5 : B ≤ 50) (k : ∀ f' g' : Nat → Int32, ml_hold f' g' ([ml_down (a1 3 0) (a1 3 1) (a1 3 2) C, mk_one (a1 3 0) (a1 3 1) ((a1 3 2) - nI C) ((a1 3 0) + nI A) (a1 3 1) ((a1 3 2) - nI C)] ++ ml_pk (a1 3 0) ((a1 3 0) + nI A) (a1 3 1) ((a1 3 2) - nI C) B) → K none (am_W ha hz (mq_a a1 f' g' (mp_3 e 0 (ml_px (a1 3 0) ((a1 3 0) + nI A) B) ((a1 3 1) + nI B) (a1 3 2))) (mq_s s1 (([ml_down (a1 3 0) (a1 3 1) (a1 3 2) C, mk_one (a1 3 0) (a1 3 1) ((a1 3 2) - nI C) ((a1 3 0) + nI A) (a1 3 1) ((a1 3 2) - nI C)] ++ ml_pk (a1 3 0) ((a1 3 0) + nI A) (a1 3 1) ((a1 3 2) - nI C) B)).length) t1 a2 s2 t2 al ma ms mt ol od)) : am_Run (d + 3) 27 [.ref 15] (am_W ha hz (mq_a a1 f g e) (mq_s s1 0) t1 a2 s2 t2 al ma ms mt ol od) K := by
  refine ⟨rfl, fun P hm hP => ?_⟩
  show P 0 [some (.ref 15), none, none, none, none, none, none, none] [] _ 0 0
  have loop : ∀ (n i : Nat) (f g : Nat → Int32) (es : List ml_L), es = ([ml_down (a1 3 0) (a1 3 1) (a1 3 2) C, mk_one (a1 3 0) (a1 3 1) ((a1 3 2) - nI C) ((a1 3 0) + nI A) (a1 3 1) ((a1 3 2) - nI C)] ++ ml_pk (a1 3 0) ((a1 3 0) + nI A) (a1 3 1) ((a1 3 2) - nI C) i) → ml_hold f g es → es.length = 2 + 2 * i → i ≤ B → B + 1 ≤ i + n → P 68 [some (.ref 15), some (.int (a1 3 0)), some (.int ((a1 3 0) + nI A)), some (.int ((a1 3 1) + nI i)), some (.int ((a1 3 2) - nI C)), some (.int (ml_px (a1 3 0) ((a1 3 0) + nI A) i)), some (.int (nI i)), none] [] (am_W ha hz (mq_a a1 f g e) (mq_s s1 (2 + 2 * i)) t1 a2 s2 t2 al ma ms mt ol od) 0 0 := by
    intro n
    induction n with
    | zero => intro i f g es hes hH hL h3 h4; omega
    | succ n ih =>
      intro i f g es hes hH hL h3 h4
      refine s_iload hP t27_68 rfl ?_
      refine s_aload_n hP t27_70 rfl ?_
      refine s_getfield hP t27_71 rfl rfl ?_
      refine s_icmp_ge hP t27_74 (fun q74 => ?_) (fun q74 => ?_)
      · have e74 : B ≤ i := by
          rw [show (mq_s s1 (2 + 2 * i)) 18 = nI B from hB] at q74
          exact (nI_leI (by omega) (by omega)).mp q74
        refine s_aload_n hP t27_139 rfl ?_
        refine s_getfield hP t27_140 rfl rfl ?_
        refine s_iload hP t27_143 rfl ?_
        refine s_iload_n hP t27_145 rfl ?_
        refine s_aload_n hP t27_146 rfl ?_
        refine s_getfield hP t27_147 rfl rfl ?_
        refine s_iconst (v := 2) hP t27_150 (by decide) ?_
        refine s_iaload hP t27_151 rfl (vp_in_nI (n := 2) (by decide) (by decide)) ?_
        refine s_invokevirtual (bc' := 0) (bs' := 0) hP t27_152 rfl rfl rfl rfl rfl ?_
        refine sp44_1 (a1 := mq_a a1 f g e) ?_
        rw [mq_a_e]
        refine s_return_ hP t27_155 rfl ?_
        obtain rfl : i = B := by omega
        have k9 := k f g (by rw [← hes]; exact hH)
        rw [← hes, hL] at k9
        exact k9
      · have e74 : i < B := by
          rw [show (mq_s s1 (2 + 2 * i)) 18 = nI B from hB] at q74
          exact Nat.lt_of_not_le (fun q => q74 ((nI_leI (by omega) (by omega)).mpr q))
        refine s_aload_n hP t27_77 rfl ?_
        refine s_getfield hP t27_78 rfl rfl ?_
        refine s_iload hP t27_81 rfl ?_
        refine s_iload_n hP t27_83 rfl ?_
        refine s_iload hP t27_84 rfl ?_
        refine s_iload hP t27_86 rfl ?_
        refine s_iload_n hP t27_88 rfl ?_
        refine s_iconst (v := 1) hP t27_89 (by decide) ?_
        refine s_iadd hP t27_90 ?_
        refine s_iload hP t27_91 rfl ?_
        refine s_invokevirtual (bc' := 0) (bs' := 0) hP t27_93 rfl rfl rfl rfl rfl ?_
        refine sp43_1_e (a1 := a1) (s1 := s1) (f := f) (g := g) (e := e) (es := es) (L := 2 + 2 * i) hH hL (by omega) (fun f8 g8 h8 => ?_)
        refine s_iinc_3 (v := 1) hP t27_96 (by decide) (by exact rfl) ?_
        refine s_iload hP t27_99 rfl ?_
        refine s_iload_n hP t27_101 rfl ?_
        refine s_icmp_ne hP t27_102 (fun q102 => ?_) (fun q102 => ?_)
        · have e102 : (ml_px (a1 3 0) ((a1 3 0) + nI A) (i + 1)) = (a1 3 0) := by rw [ml_px_next, if_neg q102]
          refine s_iload_n hP t27_109 rfl ?_
          refine s_istore_7 hP t27_110 (by exact rfl) ?_
          refine s_aload_n hP t27_112 rfl ?_
          refine s_getfield hP t27_113 rfl rfl ?_
          refine s_iload hP t27_116 rfl ?_
          refine s_iload_n hP t27_118 rfl ?_
          refine s_iload hP t27_119 rfl ?_
          refine s_iload hP t27_121 rfl ?_
          refine s_iload_n hP t27_123 rfl ?_
          refine s_iload hP t27_124 rfl ?_
          refine s_invokevirtual (bc' := 0) (bs' := 0) hP t27_126 rfl rfl rfl rfl rfl ?_
          refine sp43_1_e (a1 := a1) (s1 := s1) (f := f8) (g := g8) (e := e) (L := 2 + 2 * i + 1) h8 (by rw [List.length_append, hL]; rfl) (by omega) (fun f9 g9 h9 => ?_)
          refine s_iload hP t27_129 rfl ?_
          refine s_istore_5 hP t27_131 (by exact rfl) ?_
          refine s_iinc_6 (v := 1) hP t27_133 (by decide) (by exact rfl) ?_
          refine s_goto hP t27_136 ?_
          rw [nI_1]
          have l9 := ih (i + 1) f9 g9 (es ++ [mk_one (ml_px (a1 3 0) ((a1 3 0) + nI A) i) ((a1 3 1) + nI i) ((a1 3 2) - nI C) (ml_px (a1 3 0) ((a1 3 0) + nI A) i) ((a1 3 1) + nI i + 1) ((a1 3 2) - nI C)] ++ [mk_one (ml_px (a1 3 0) ((a1 3 0) + nI A) i) ((a1 3 1) + nI i + 1) ((a1 3 2) - nI C) (ml_px (a1 3 0) ((a1 3 0) + nI A) (i + 1)) ((a1 3 1) + nI i + 1) ((a1 3 2) - nI C)]) (by rw [hes, ml_pk, List.append_assoc, List.append_assoc]; rfl) (by rw [e102]; exact h9) (by rw [List.length_append, List.length_append, hL]; simp; omega) (by omega) (by omega)
          rw [e102, show (a1 3 1) + nI (i + 1) = (a1 3 1) + nI i + 1 from by rw [nI_succ, Int32.add_assoc]] at l9
          exact hm _ _ _ _ _ _ _ (by repeat (first | exact am_le_nil | apply am_le_cons | apply am_le_none)) l9
        · have e102 : (ml_px (a1 3 0) ((a1 3 0) + nI A) (i + 1)) = ((a1 3 0) + nI A) := by rw [ml_px_next, if_pos q102]
          refine s_iload_n hP t27_105 rfl ?_
          refine s_goto hP t27_106 ?_
          refine s_istore_7 hP t27_110 (by exact rfl) ?_
          refine s_aload_n hP t27_112 rfl ?_
          refine s_getfield hP t27_113 rfl rfl ?_
          refine s_iload hP t27_116 rfl ?_
          refine s_iload_n hP t27_118 rfl ?_
          refine s_iload hP t27_119 rfl ?_
          refine s_iload hP t27_121 rfl ?_
          refine s_iload_n hP t27_123 rfl ?_
          refine s_iload hP t27_124 rfl ?_
          refine s_invokevirtual (bc' := 0) (bs' := 0) hP t27_126 rfl rfl rfl rfl rfl ?_
          refine sp43_1_e (a1 := a1) (s1 := s1) (f := f8) (g := g8) (e := e) (L := 2 + 2 * i + 1) h8 (by rw [List.length_append, hL]; rfl) (by omega) (fun f9 g9 h9 => ?_)
          refine s_iload hP t27_129 rfl ?_
          refine s_istore_5 hP t27_131 (by exact rfl) ?_
          refine s_iinc_6 (v := 1) hP t27_133 (by decide) (by exact rfl) ?_
          refine s_goto hP t27_136 ?_
          rw [nI_1]
          have l9 := ih (i + 1) f9 g9 (es ++ [mk_one (ml_px (a1 3 0) ((a1 3 0) + nI A) i) ((a1 3 1) + nI i) ((a1 3 2) - nI C) (ml_px (a1 3 0) ((a1 3 0) + nI A) i) ((a1 3 1) + nI i + 1) ((a1 3 2) - nI C)] ++ [mk_one (ml_px (a1 3 0) ((a1 3 0) + nI A) i) ((a1 3 1) + nI i + 1) ((a1 3 2) - nI C) (ml_px (a1 3 0) ((a1 3 0) + nI A) (i + 1)) ((a1 3 1) + nI i + 1) ((a1 3 2) - nI C)]) (by rw [hes, ml_pk, List.append_assoc, List.append_assoc]; rfl) (by rw [e102]; exact h9) (by rw [List.length_append, List.length_append, hL]; simp; omega) (by omega) (by omega)
          rw [e102, show (a1 3 1) + nI (i + 1) = (a1 3 1) + nI i + 1 from by rw [nI_succ, Int32.add_assoc]] at l9
          exact hm _ _ _ _ _ _ _ (by repeat (first | exact am_le_nil | apply am_le_cons | apply am_le_none)) l9
  refine s_aload_n hP t27_0 rfl ?_
  refine s_aload_n hP t27_1 rfl ?_
  refine s_getfield hP t27_2 rfl rfl ?_
  rw [show (mq_s s1 0) 19 = nI C from hC]
  refine s_invokevirtual (bc' := 0) (bs' := 0) hP t27_5 rfl rfl rfl rfl rfl ?_
  refine sp28_1 (a1 := a1) (s1 := s1) (es := []) (L := 0) ml_hold_nil rfl (by decide) (fun f8 g8 h8 => ?_)
  refine s_aload_n hP t27_8 rfl ?_
  refine s_getfield hP t27_9 rfl rfl ?_
  refine s_iconst (v := 0) hP t27_12 (by decide) ?_
  refine s_iaload hP t27_13 rfl (vp_in_nI (n := 0) (by decide) (by decide)) ?_
  refine s_istore_n_1 hP t27_14 (by exact rfl) ?_
  refine s_aload_n hP t27_15 rfl ?_
  refine s_getfield hP t27_16 rfl rfl ?_
  refine s_iconst (v := 0) hP t27_19 (by decide) ?_
  refine s_iaload hP t27_20 rfl (vp_in_nI (n := 0) (by decide) (by decide)) ?_
  refine s_aload_n hP t27_21 rfl ?_
  refine s_getfield hP t27_22 rfl rfl ?_
  rw [show (mq_s s1 (0 + 1)) 17 = nI A from hA]
  refine s_iadd hP t27_25 ?_
  refine s_istore_n_2 hP t27_26 (by exact rfl) ?_
  refine s_aload_n hP t27_27 rfl ?_
  refine s_getfield hP t27_28 rfl rfl ?_
  refine s_iconst (v := 1) hP t27_31 (by decide) ?_
  refine s_iaload hP t27_32 rfl (vp_in_nI (n := 1) (by decide) (by decide)) ?_
  refine s_istore_n_3 hP t27_33 (by exact rfl) ?_
  refine s_aload_n hP t27_34 rfl ?_
  refine s_getfield hP t27_35 rfl rfl ?_
  refine s_iconst (v := 2) hP t27_38 (by decide) ?_
  refine s_iaload hP t27_39 rfl (vp_in_nI (n := 2) (by decide) (by decide)) ?_
  refine s_aload_n hP t27_40 rfl ?_
  refine s_getfield hP t27_41 rfl rfl ?_
  rw [show (mq_s s1 (0 + 1)) 19 = nI C from hC]
  refine s_isub hP t27_44 ?_
  refine s_istore_4 hP t27_45 (by exact rfl) ?_
  refine s_aload_n hP t27_47 rfl ?_
  refine s_getfield hP t27_48 rfl rfl ?_
  refine s_iload_n hP t27_51 rfl ?_
  refine s_iload_n hP t27_52 rfl ?_
  refine s_iload hP t27_53 rfl ?_
  refine s_iload_n hP t27_55 rfl ?_
  refine s_iload_n hP t27_56 rfl ?_
  refine s_iload hP t27_57 rfl ?_
  refine s_invokevirtual (bc' := 0) (bs' := 0) hP t27_59 rfl rfl rfl rfl rfl ?_
  refine sp43_1_e (a1 := a1) (s1 := s1) (f := f8) (g := g8) (e := e) (L := 1) h8 rfl (by decide) (fun f9 g9 h9 => ?_)
  refine s_iload_n hP t27_62 rfl ?_
  refine s_istore_5 hP t27_63 (by exact rfl) ?_
  refine s_iconst (v := 0) hP t27_65 (by decide) ?_
  refine s_istore_6 hP t27_66 (by exact rfl) ?_
  have l9 := loop (B + 1) 0 f9 g9 _ rfl h9 rfl (by omega) (by omega)
  rw [show (a1 3 1) + nI 0 = (a1 3 1) from Int32.add_zero _] at l9
  exact l9
theorem sp43_2_e {d : Nat} {K : am_K} {ha : Nat → Nat → Int32} {hz : Int32} {a1 : Nat → Nat → Int32} {s1 : Nat → Int32} {t1 : UInt32} {a2 : Nat → Nat → Int32} {s2 : Nat → Int32} {t2 : UInt32} {al : Int32} {ma : Nat → Nat → Int32} {ms : Nat → Int32} {mt : UInt32} {ol : Nat → Int64} {od : Nat → UInt64} {f g e : Nat → Int32} {es : List ml_L} {L : Nat} {x y z u v w : Int32} (hH : ml_hold f g es) (hL : es.length = L) (hL9 : L < 102) (k : ∀ f' g' : Nat → Int32, ml_hold f' g' (es ++ [mk_one x y z u v w]) → K none (am_W ha hz a1 s1 t1 (mq_a a2 f' g' e) (mq_s s2 (L + 1)) t2 al ma ms mt ol od)) : am_Run (d + 1) 43 [.ref 34, .int x, .int y, .int z, .int u, .int v, .int w] (am_W ha hz a1 s1 t1 (mq_a a2 f g e) (mq_s s2 L) t2 al ma ms mt ol od) K := by
  subst hL
  refine sp43_2 (a2 := mq_a a2 f g e) (s2 := mq_s s2 es.length) (L := es.length) rfl hL9 ?_
  have k9 := k _ _ (ml_hold_push (x := x) (y := y) (z := z) (u := u) (v := v) (w := w) hH)
  rw [mq_s_s, show am_u2 (am_u2 (mq_a a2 f g e) 5 (mp_3 ((mq_a a2 f g e) 5) (3 * es.length) x y z)) 6 (mp_3 ((mq_a a2 f g e) 6) (3 * es.length) (u - x) (v - y) (w - z)) = mq_a a2 (mp_3 f (3 * es.length) x y z) (mp_3 g (3 * es.length) (u - x) (v - y) (w - z)) e from mq_a_a]
  exact k9
set_option maxHeartbeats 2000000 in
theorem sp28_2 {d : Nat} {K : am_K} {ha : Nat → Nat → Int32} {hz : Int32} {a1 : Nat → Nat → Int32} {s1 : Nat → Int32} {t1 : UInt32} {a2 : Nat → Nat → Int32} {s2 : Nat → Int32} {t2 : UInt32} {al : Int32} {ma : Nat → Nat → Int32} {ms : Nat → Int32} {mt : UInt32} {ol : Nat → Int64} {od : Nat → UInt64} {f g e : Nat → Int32} {es : List ml_L} {L : Nat} {x : Int32} (hH : ml_hold f g es) (hL : es.length = L) (hL9 : L < 102) (k : ∀ f' g' : Nat → Int32, ml_hold f' g' (es ++ [mk_one (a2 3 0) (a2 3 1) (a2 3 2) (a2 3 0) (a2 3 1) ((a2 3 2) - x)]) → K none (am_W ha hz a1 s1 t1 (mq_a a2 f' g' e) (mq_s s2 (L + 1)) t2 al ma ms mt ol od)) : am_Run (d + 2) 28 [.ref 27, .int x] (am_W ha hz a1 s1 t1 (mq_a a2 f g e) (mq_s s2 L) t2 al ma ms mt ol od) K := by
  refine ⟨rfl, fun P hm hP => ?_⟩
  show P 0 [some (.ref 27), some (.int x)] [] _ 0 0
  refine s_aload_n hP t28_0 rfl ?_
  refine s_getfield hP t28_1 rfl rfl ?_
  refine s_aload_n hP t28_4 rfl ?_
  refine s_getfield hP t28_5 rfl rfl ?_
  refine s_iconst (v := 0) hP t28_8 (by decide) ?_
  refine s_iaload hP t28_9 rfl (vp_in_nI (n := 0) (by decide) (by decide)) ?_
  refine s_aload_n hP t28_10 rfl ?_
  refine s_getfield hP t28_11 rfl rfl ?_
  refine s_iconst (v := 1) hP t28_14 (by decide) ?_
  refine s_iaload hP t28_15 rfl (vp_in_nI (n := 1) (by decide) (by decide)) ?_
  refine s_aload_n hP t28_16 rfl ?_
  refine s_getfield hP t28_17 rfl rfl ?_
  refine s_iconst (v := 2) hP t28_20 (by decide) ?_
  refine s_iaload hP t28_21 rfl (vp_in_nI (n := 2) (by decide) (by decide)) ?_
  refine s_aload_n hP t28_22 rfl ?_
  refine s_getfield hP t28_23 rfl rfl ?_
  refine s_iconst (v := 0) hP t28_26 (by decide) ?_
  refine s_iaload hP t28_27 rfl (vp_in_nI (n := 0) (by decide) (by decide)) ?_
  refine s_aload_n hP t28_28 rfl ?_
  refine s_getfield hP t28_29 rfl rfl ?_
  refine s_iconst (v := 1) hP t28_32 (by decide) ?_
  refine s_iaload hP t28_33 rfl (vp_in_nI (n := 1) (by decide) (by decide)) ?_
  refine s_aload_n hP t28_34 rfl ?_
  refine s_getfield hP t28_35 rfl rfl ?_
  refine s_iconst (v := 2) hP t28_38 (by decide) ?_
  refine s_iaload hP t28_39 rfl (vp_in_nI (n := 2) (by decide) (by decide)) ?_
  refine s_iload_n hP t28_40 rfl ?_
  refine s_isub hP t28_41 ?_
  refine s_invokevirtual (bc' := 0) (bs' := 0) hP t28_42 rfl rfl rfl rfl rfl ?_
  refine sp43_2_e (a2 := a2) (s2 := s2) (f := f) (g := g) (e := e) hH hL hL9 (fun f9 g9 h9 => ?_)
  refine s_return_ hP t28_45 rfl ?_
  exact k f9 g9 h9
set_option maxHeartbeats 400000 in
theorem sp26_2 {d : Nat} {K : am_K} {ha : Nat → Nat → Int32} {hz : Int32} {a1 : Nat → Nat → Int32} {s1 : Nat → Int32} {t1 : UInt32} {a2 : Nat → Nat → Int32} {s2 : Nat → Int32} {t2 : UInt32} {al : Int32} {ma : Nat → Nat → Int32} {ms : Nat → Int32} {mt : UInt32} {ol : Nat → Int64} {od : Nat → UInt64} {f g e : Nat → Int32} {A B : Nat} (hA : s2 17 = nI A) (hB : s2 18 = nI B) (hA5 : A ≤ 50) (hB1 : 1 ≤ B) (hB5 : B ≤ 50) (k : ∀ f' g' : Nat → Int32, ml_hold f' g' ((ml_deps A B A 1).map (ml_down (a2 3 0) (a2 3 1) (a2 3 2))) → K none (am_W ha hz a1 s1 t1 (mq_a a2 f' g' e) (mq_s s2 ((ml_deps A B A 1).map (ml_down (a2 3 0) (a2 3 1) (a2 3 2))).length) t2 al ma ms mt ol od)) : am_Run (d + 3) 26 [.ref 27] (am_W ha hz a1 s1 t1 (mq_a a2 f g e) (mq_s s2 0) t2 al ma ms mt ol od) K := by
  refine ⟨rfl, fun P hm hP => ?_⟩
  show P 0 [some (.ref 27), none] [] _ 0 0
  have loop : ∀ (n i L : Nat) (f g : Nat → Int32) (es : List ml_L), ml_hold f g es → es.length = L → A + 2 ≤ i + n → L + 1 = i → i ≤ A + 1 → (ml_deps A B A 1).map (ml_down (a2 3 0) (a2 3 1) (a2 3 2)) = es ++ (ml_deps A B (A + 1 - i) i).map (ml_down (a2 3 0) (a2 3 1) (a2 3 2)) → P 2 [some (.ref 27), some (.int (nI i))] [] (am_W ha hz a1 s1 t1 (mq_a a2 f g e) (mq_s s2 L) t2 al ma ms mt ol od) 0 0 := by
    intro n
    induction n with
    | zero => intro i L f g es hH hL h3 h4 h5; omega
    | succ n ih =>
      intro i L f g es hH hL h3 h4 h5 hes
      refine s_iload_n hP t26_2 rfl ?_
      refine s_aload_n hP t26_3 rfl ?_
      refine s_getfield hP t26_4 rfl rfl ?_
      refine s_icmp_ge hP t26_7 (fun q7 => ?_) (fun q7 => ?_)
      · have e7 : A ≤ i * B := by
          rw [show (mq_s s2 L) 17 = nI A from hA] at q7
          have := (nI_leI (by omega) (by omega)).mp q7
          exact Nat.le_trans this (Nat.le_mul_of_pos_right _ (by omega))
        refine s_aload_n hP t26_39 rfl ?_
        refine s_aload_n hP t26_40 rfl ?_
        refine s_getfield hP t26_41 rfl rfl ?_
        rw [show (mq_s s2 L) 17 = nI A from hA]
        refine s_invokevirtual (bc' := 0) (bs' := 0) hP t26_44 rfl rfl rfl rfl rfl ?_
        refine sp28_2 (a2 := a2) (s2 := s2) hH hL (by omega) (fun f9 g9 h9 => ?_)
        refine s_return_ hP t26_47 rfl ?_
        have e9 : es ++ [ml_down (a2 3 0) (a2 3 1) (a2 3 2) A] = (ml_deps A B A 1).map (ml_down (a2 3 0) (a2 3 1) (a2 3 2)) := by
          rw [hes]
          by_cases hn0 : A + 1 - i = 0
          · rw [hn0]; rfl
          · rw [show A + 1 - i = (A - i) + 1 by omega, ml_deps, if_neg (by omega)]; rfl
        have h9' : ml_hold f9 g9 ((ml_deps A B A 1).map (ml_down (a2 3 0) (a2 3 1) (a2 3 2))) := by rw [← e9]; exact h9
        have k9 := k f9 g9 h9'
        rw [← e9, List.length_append, hL] at k9
        exact k9
      · have e7 : i < A := by
          rw [show (mq_s s2 L) 17 = nI A from hA] at q7
          exact Nat.lt_of_not_le (fun q => q7 ((nI_leI (by omega) (by omega)).mpr q))
        have hiB : i * B < 2 ^ 31 := Nat.lt_of_le_of_lt (Nat.mul_le_mul (show i ≤ 50 by omega) hB5) (by decide)
        refine s_iload_n hP t26_10 rfl ?_
        refine s_aload_n hP t26_11 rfl ?_
        refine s_getfield hP t26_12 rfl rfl ?_
        refine s_imul hP t26_15 ?_
        refine s_aload_n hP t26_16 rfl ?_
        refine s_getfield hP t26_17 rfl rfl ?_
        refine s_icmp_ge hP t26_20 (fun q20 => ?_) (fun q20 => ?_)
        · have e7 : A ≤ i * B := by
            rw [show (mq_s s2 L) 18 = nI B from hB, show (mq_s s2 L) 17 = nI A from hA, pk_mul] at q20
            exact (nI_leI (by omega) hiB).mp q20
          refine s_aload_n hP t26_39 rfl ?_
          refine s_aload_n hP t26_40 rfl ?_
          refine s_getfield hP t26_41 rfl rfl ?_
          rw [show (mq_s s2 L) 17 = nI A from hA]
          refine s_invokevirtual (bc' := 0) (bs' := 0) hP t26_44 rfl rfl rfl rfl rfl ?_
          refine sp28_2 (a2 := a2) (s2 := s2) hH hL (by omega) (fun f9 g9 h9 => ?_)
          refine s_return_ hP t26_47 rfl ?_
          have e9 : es ++ [ml_down (a2 3 0) (a2 3 1) (a2 3 2) A] = (ml_deps A B A 1).map (ml_down (a2 3 0) (a2 3 1) (a2 3 2)) := by
            rw [hes]
            by_cases hn0 : A + 1 - i = 0
            · rw [hn0]; rfl
            · rw [show A + 1 - i = (A - i) + 1 by omega, ml_deps, if_neg (by omega)]; rfl
          have h9' : ml_hold f9 g9 ((ml_deps A B A 1).map (ml_down (a2 3 0) (a2 3 1) (a2 3 2))) := by rw [← e9]; exact h9
          have k9 := k f9 g9 h9'
          rw [← e9, List.length_append, hL] at k9
          exact k9
        · have e20 : i * B < A := by
            rw [show (mq_s s2 L) 18 = nI B from hB, show (mq_s s2 L) 17 = nI A from hA, pk_mul] at q20
            exact Nat.lt_of_not_le (fun q => q20 ((nI_leI (by omega) hiB).mpr q))
          refine s_aload_n hP t26_23 rfl ?_
          refine s_iload_n hP t26_24 rfl ?_
          refine s_aload_n hP t26_25 rfl ?_
          refine s_getfield hP t26_26 rfl rfl ?_
          refine s_imul hP t26_29 ?_
          rw [show (mq_s s2 L) 18 = nI B from hB, pk_mul]
          refine s_invokevirtual (bc' := 0) (bs' := 0) hP t26_30 rfl rfl rfl rfl rfl ?_
          refine sp28_2 (a2 := a2) (s2 := s2) hH hL (by omega) (fun f9 g9 h9 => ?_)
          refine s_iinc_1 (v := 1) hP t26_33 (by decide) (by exact rfl) ?_
          refine s_goto hP t26_36 ?_
          rw [nI_1]
          refine ih (i + 1) (L + 1) f9 g9 (es ++ [ml_down (a2 3 0) (a2 3 1) (a2 3 2) (i * B)]) h9 (by rw [List.length_append, hL]; rfl) (by omega) (by omega) (by omega) (by
            rw [hes, List.append_assoc, show A + 1 - i = (A + 1 - (i + 1)) + 1 by omega, ml_deps, if_pos e20]
            rfl)
  refine s_iconst (v := 1) hP t26_0 (by decide) ?_
  refine s_istore_n_1 hP t26_1 (by exact rfl) ?_
  exact loop (A + 2) 1 0 f g [] ml_hold_nil rfl (by omega) rfl (by omega) rfl
set_option maxHeartbeats 400000 in
theorem sp27_2 {d : Nat} {K : am_K} {ha : Nat → Nat → Int32} {hz : Int32} {a1 : Nat → Nat → Int32} {s1 : Nat → Int32} {t1 : UInt32} {a2 : Nat → Nat → Int32} {s2 : Nat → Int32} {t2 : UInt32} {al : Int32} {ma : Nat → Nat → Int32} {ms : Nat → Int32} {mt : UInt32} {ol : Nat → Int64} {od : Nat → UInt64} {f g e : Nat → Int32} {A B C : Nat} (hA : s2 17 = nI A) (hB : s2 18 = nI B) (hC : s2 19 = nI C) (hB5 : B ≤ 50) (k : ∀ f' g' : Nat → Int32, ml_hold f' g' ([ml_down (a2 3 0) (a2 3 1) (a2 3 2) C, mk_one (a2 3 0) (a2 3 1) ((a2 3 2) - nI C) ((a2 3 0) + nI A) (a2 3 1) ((a2 3 2) - nI C)] ++ ml_pk (a2 3 0) ((a2 3 0) + nI A) (a2 3 1) ((a2 3 2) - nI C) B) → K none (am_W ha hz a1 s1 t1 (mq_a a2 f' g' (mp_3 e 0 (ml_px (a2 3 0) ((a2 3 0) + nI A) B) ((a2 3 1) + nI B) (a2 3 2))) (mq_s s2 (([ml_down (a2 3 0) (a2 3 1) (a2 3 2) C, mk_one (a2 3 0) (a2 3 1) ((a2 3 2) - nI C) ((a2 3 0) + nI A) (a2 3 1) ((a2 3 2) - nI C)] ++ ml_pk (a2 3 0) ((a2 3 0) + nI A) (a2 3 1) ((a2 3 2) - nI C) B)).length) t2 al ma ms mt ol od)) : am_Run (d + 3) 27 [.ref 27] (am_W ha hz a1 s1 t1 (mq_a a2 f g e) (mq_s s2 0) t2 al ma ms mt ol od) K := by
  refine ⟨rfl, fun P hm hP => ?_⟩
  show P 0 [some (.ref 27), none, none, none, none, none, none, none] [] _ 0 0
  have loop : ∀ (n i : Nat) (f g : Nat → Int32) (es : List ml_L), es = ([ml_down (a2 3 0) (a2 3 1) (a2 3 2) C, mk_one (a2 3 0) (a2 3 1) ((a2 3 2) - nI C) ((a2 3 0) + nI A) (a2 3 1) ((a2 3 2) - nI C)] ++ ml_pk (a2 3 0) ((a2 3 0) + nI A) (a2 3 1) ((a2 3 2) - nI C) i) → ml_hold f g es → es.length = 2 + 2 * i → i ≤ B → B + 1 ≤ i + n → P 68 [some (.ref 27), some (.int (a2 3 0)), some (.int ((a2 3 0) + nI A)), some (.int ((a2 3 1) + nI i)), some (.int ((a2 3 2) - nI C)), some (.int (ml_px (a2 3 0) ((a2 3 0) + nI A) i)), some (.int (nI i)), none] [] (am_W ha hz a1 s1 t1 (mq_a a2 f g e) (mq_s s2 (2 + 2 * i)) t2 al ma ms mt ol od) 0 0 := by
    intro n
    induction n with
    | zero => intro i f g es hes hH hL h3 h4; omega
    | succ n ih =>
      intro i f g es hes hH hL h3 h4
      refine s_iload hP t27_68 rfl ?_
      refine s_aload_n hP t27_70 rfl ?_
      refine s_getfield hP t27_71 rfl rfl ?_
      refine s_icmp_ge hP t27_74 (fun q74 => ?_) (fun q74 => ?_)
      · have e74 : B ≤ i := by
          rw [show (mq_s s2 (2 + 2 * i)) 18 = nI B from hB] at q74
          exact (nI_leI (by omega) (by omega)).mp q74
        refine s_aload_n hP t27_139 rfl ?_
        refine s_getfield hP t27_140 rfl rfl ?_
        refine s_iload hP t27_143 rfl ?_
        refine s_iload_n hP t27_145 rfl ?_
        refine s_aload_n hP t27_146 rfl ?_
        refine s_getfield hP t27_147 rfl rfl ?_
        refine s_iconst (v := 2) hP t27_150 (by decide) ?_
        refine s_iaload hP t27_151 rfl (vp_in_nI (n := 2) (by decide) (by decide)) ?_
        refine s_invokevirtual (bc' := 0) (bs' := 0) hP t27_152 rfl rfl rfl rfl rfl ?_
        refine sp44_2 (a2 := mq_a a2 f g e) ?_
        rw [mq_a_e]
        refine s_return_ hP t27_155 rfl ?_
        obtain rfl : i = B := by omega
        have k9 := k f g (by rw [← hes]; exact hH)
        rw [← hes, hL] at k9
        exact k9
      · have e74 : i < B := by
          rw [show (mq_s s2 (2 + 2 * i)) 18 = nI B from hB] at q74
          exact Nat.lt_of_not_le (fun q => q74 ((nI_leI (by omega) (by omega)).mpr q))
        refine s_aload_n hP t27_77 rfl ?_
        refine s_getfield hP t27_78 rfl rfl ?_
        refine s_iload hP t27_81 rfl ?_
        refine s_iload_n hP t27_83 rfl ?_
        refine s_iload hP t27_84 rfl ?_
        refine s_iload hP t27_86 rfl ?_
        refine s_iload_n hP t27_88 rfl ?_
        refine s_iconst (v := 1) hP t27_89 (by decide) ?_
        refine s_iadd hP t27_90 ?_
        refine s_iload hP t27_91 rfl ?_
        refine s_invokevirtual (bc' := 0) (bs' := 0) hP t27_93 rfl rfl rfl rfl rfl ?_
        refine sp43_2_e (a2 := a2) (s2 := s2) (f := f) (g := g) (e := e) (es := es) (L := 2 + 2 * i) hH hL (by omega) (fun f8 g8 h8 => ?_)
        refine s_iinc_3 (v := 1) hP t27_96 (by decide) (by exact rfl) ?_
        refine s_iload hP t27_99 rfl ?_
        refine s_iload_n hP t27_101 rfl ?_
        refine s_icmp_ne hP t27_102 (fun q102 => ?_) (fun q102 => ?_)
        · have e102 : (ml_px (a2 3 0) ((a2 3 0) + nI A) (i + 1)) = (a2 3 0) := by rw [ml_px_next, if_neg q102]
          refine s_iload_n hP t27_109 rfl ?_
          refine s_istore_7 hP t27_110 (by exact rfl) ?_
          refine s_aload_n hP t27_112 rfl ?_
          refine s_getfield hP t27_113 rfl rfl ?_
          refine s_iload hP t27_116 rfl ?_
          refine s_iload_n hP t27_118 rfl ?_
          refine s_iload hP t27_119 rfl ?_
          refine s_iload hP t27_121 rfl ?_
          refine s_iload_n hP t27_123 rfl ?_
          refine s_iload hP t27_124 rfl ?_
          refine s_invokevirtual (bc' := 0) (bs' := 0) hP t27_126 rfl rfl rfl rfl rfl ?_
          refine sp43_2_e (a2 := a2) (s2 := s2) (f := f8) (g := g8) (e := e) (L := 2 + 2 * i + 1) h8 (by rw [List.length_append, hL]; rfl) (by omega) (fun f9 g9 h9 => ?_)
          refine s_iload hP t27_129 rfl ?_
          refine s_istore_5 hP t27_131 (by exact rfl) ?_
          refine s_iinc_6 (v := 1) hP t27_133 (by decide) (by exact rfl) ?_
          refine s_goto hP t27_136 ?_
          rw [nI_1]
          have l9 := ih (i + 1) f9 g9 (es ++ [mk_one (ml_px (a2 3 0) ((a2 3 0) + nI A) i) ((a2 3 1) + nI i) ((a2 3 2) - nI C) (ml_px (a2 3 0) ((a2 3 0) + nI A) i) ((a2 3 1) + nI i + 1) ((a2 3 2) - nI C)] ++ [mk_one (ml_px (a2 3 0) ((a2 3 0) + nI A) i) ((a2 3 1) + nI i + 1) ((a2 3 2) - nI C) (ml_px (a2 3 0) ((a2 3 0) + nI A) (i + 1)) ((a2 3 1) + nI i + 1) ((a2 3 2) - nI C)]) (by rw [hes, ml_pk, List.append_assoc, List.append_assoc]; rfl) (by rw [e102]; exact h9) (by rw [List.length_append, List.length_append, hL]; simp; omega) (by omega) (by omega)
          rw [e102, show (a2 3 1) + nI (i + 1) = (a2 3 1) + nI i + 1 from by rw [nI_succ, Int32.add_assoc]] at l9
          exact hm _ _ _ _ _ _ _ (by repeat (first | exact am_le_nil | apply am_le_cons | apply am_le_none)) l9
        · have e102 : (ml_px (a2 3 0) ((a2 3 0) + nI A) (i + 1)) = ((a2 3 0) + nI A) := by rw [ml_px_next, if_pos q102]
          refine s_iload_n hP t27_105 rfl ?_
          refine s_goto hP t27_106 ?_
          refine s_istore_7 hP t27_110 (by exact rfl) ?_
          refine s_aload_n hP t27_112 rfl ?_
          refine s_getfield hP t27_113 rfl rfl ?_
          refine s_iload hP t27_116 rfl ?_
          refine s_iload_n hP t27_118 rfl ?_
          refine s_iload hP t27_119 rfl ?_
          refine s_iload hP t27_121 rfl ?_
          refine s_iload_n hP t27_123 rfl ?_
          refine s_iload hP t27_124 rfl ?_
          refine s_invokevirtual (bc' := 0) (bs' := 0) hP t27_126 rfl rfl rfl rfl rfl ?_
          refine sp43_2_e (a2 := a2) (s2 := s2) (f := f8) (g := g8) (e := e) (L := 2 + 2 * i + 1) h8 (by rw [List.length_append, hL]; rfl) (by omega) (fun f9 g9 h9 => ?_)
          refine s_iload hP t27_129 rfl ?_
          refine s_istore_5 hP t27_131 (by exact rfl) ?_
          refine s_iinc_6 (v := 1) hP t27_133 (by decide) (by exact rfl) ?_
          refine s_goto hP t27_136 ?_
          rw [nI_1]
          have l9 := ih (i + 1) f9 g9 (es ++ [mk_one (ml_px (a2 3 0) ((a2 3 0) + nI A) i) ((a2 3 1) + nI i) ((a2 3 2) - nI C) (ml_px (a2 3 0) ((a2 3 0) + nI A) i) ((a2 3 1) + nI i + 1) ((a2 3 2) - nI C)] ++ [mk_one (ml_px (a2 3 0) ((a2 3 0) + nI A) i) ((a2 3 1) + nI i + 1) ((a2 3 2) - nI C) (ml_px (a2 3 0) ((a2 3 0) + nI A) (i + 1)) ((a2 3 1) + nI i + 1) ((a2 3 2) - nI C)]) (by rw [hes, ml_pk, List.append_assoc, List.append_assoc]; rfl) (by rw [e102]; exact h9) (by rw [List.length_append, List.length_append, hL]; simp; omega) (by omega) (by omega)
          rw [e102, show (a2 3 1) + nI (i + 1) = (a2 3 1) + nI i + 1 from by rw [nI_succ, Int32.add_assoc]] at l9
          exact hm _ _ _ _ _ _ _ (by repeat (first | exact am_le_nil | apply am_le_cons | apply am_le_none)) l9
  refine s_aload_n hP t27_0 rfl ?_
  refine s_aload_n hP t27_1 rfl ?_
  refine s_getfield hP t27_2 rfl rfl ?_
  rw [show (mq_s s2 0) 19 = nI C from hC]
  refine s_invokevirtual (bc' := 0) (bs' := 0) hP t27_5 rfl rfl rfl rfl rfl ?_
  refine sp28_2 (a2 := a2) (s2 := s2) (es := []) (L := 0) ml_hold_nil rfl (by decide) (fun f8 g8 h8 => ?_)
  refine s_aload_n hP t27_8 rfl ?_
  refine s_getfield hP t27_9 rfl rfl ?_
  refine s_iconst (v := 0) hP t27_12 (by decide) ?_
  refine s_iaload hP t27_13 rfl (vp_in_nI (n := 0) (by decide) (by decide)) ?_
  refine s_istore_n_1 hP t27_14 (by exact rfl) ?_
  refine s_aload_n hP t27_15 rfl ?_
  refine s_getfield hP t27_16 rfl rfl ?_
  refine s_iconst (v := 0) hP t27_19 (by decide) ?_
  refine s_iaload hP t27_20 rfl (vp_in_nI (n := 0) (by decide) (by decide)) ?_
  refine s_aload_n hP t27_21 rfl ?_
  refine s_getfield hP t27_22 rfl rfl ?_
  rw [show (mq_s s2 (0 + 1)) 17 = nI A from hA]
  refine s_iadd hP t27_25 ?_
  refine s_istore_n_2 hP t27_26 (by exact rfl) ?_
  refine s_aload_n hP t27_27 rfl ?_
  refine s_getfield hP t27_28 rfl rfl ?_
  refine s_iconst (v := 1) hP t27_31 (by decide) ?_
  refine s_iaload hP t27_32 rfl (vp_in_nI (n := 1) (by decide) (by decide)) ?_
  refine s_istore_n_3 hP t27_33 (by exact rfl) ?_
  refine s_aload_n hP t27_34 rfl ?_
  refine s_getfield hP t27_35 rfl rfl ?_
  refine s_iconst (v := 2) hP t27_38 (by decide) ?_
  refine s_iaload hP t27_39 rfl (vp_in_nI (n := 2) (by decide) (by decide)) ?_
  refine s_aload_n hP t27_40 rfl ?_
  refine s_getfield hP t27_41 rfl rfl ?_
  rw [show (mq_s s2 (0 + 1)) 19 = nI C from hC]
  refine s_isub hP t27_44 ?_
  refine s_istore_4 hP t27_45 (by exact rfl) ?_
  refine s_aload_n hP t27_47 rfl ?_
  refine s_getfield hP t27_48 rfl rfl ?_
  refine s_iload_n hP t27_51 rfl ?_
  refine s_iload_n hP t27_52 rfl ?_
  refine s_iload hP t27_53 rfl ?_
  refine s_iload_n hP t27_55 rfl ?_
  refine s_iload_n hP t27_56 rfl ?_
  refine s_iload hP t27_57 rfl ?_
  refine s_invokevirtual (bc' := 0) (bs' := 0) hP t27_59 rfl rfl rfl rfl rfl ?_
  refine sp43_2_e (a2 := a2) (s2 := s2) (f := f8) (g := g8) (e := e) (L := 1) h8 rfl (by decide) (fun f9 g9 h9 => ?_)
  refine s_iload_n hP t27_62 rfl ?_
  refine s_istore_5 hP t27_63 (by exact rfl) ?_
  refine s_iconst (v := 0) hP t27_65 (by decide) ?_
  refine s_istore_6 hP t27_66 (by exact rfl) ?_
  have l9 := loop (B + 1) 0 f9 g9 _ rfl h9 rfl (by omega) (by omega)
  rw [show (a2 3 1) + nI 0 = (a2 3 1) from Int32.add_zero _] at l9
  exact l9
