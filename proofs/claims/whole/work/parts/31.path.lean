/-! THE PATH; a controller's small methods. (rows by gen/sp8.py) -/
def mp_mx (x y : Int32) : Int32 := if y ≤ x then x else y
def mp_ab (x : Int32) : Int32 := if 0 ≤ x then x else -x
def mp_stN (g : Nat → Int32) (l : Nat) : Nat → Int32
  | 0 => 0
  | i + 1 => mp_mx (mp_stN g l i) (mp_ab (g (3 * l + i)))
def mp_steps (g : Nat → Int32) (l : Nat) : Int32 := mp_stN g l 3
theorem mp_idx (l i : Nat) : nI l * 3 + nI i = nI (3 * l + i) := by
  rw [show (3 : Int32) = nI 3 from rfl, pk_mul, nI_add, Nat.mul_comm]
set_option maxHeartbeats 1000000 in
theorem sp46 {d : Nat} {K : am_K} {h : am_H} {a b1 b2 b3 : Nat} {lg : Int32} {g : Nat → Int32} (h1 : am_nth h a = some (.inr (3, [.ref b1, .ref b2, .ref b3, .int lg]))) (g2 : am_get am_ro h b2 = some (.inl (0, 306, .inl g))) {l : Nat} (hl : l < 102) (k : K (some (.int (mp_steps g l))) h) : am_Run (d + 2) 46 [.ref a, .int (nI l)] h K := by
  refine ⟨rfl, fun P hm hP => ?_⟩
  show P 0 [some (.ref a), some (.int (nI l)), none, none, none] [] _ 0 0
  have loop : ∀ (n i : Nat), i ≤ 3 → 3 + 1 ≤ i + n → P 4 [some (.ref a), some (.int (nI l)), some (.int (mp_stN g l i)), some (.int (nI i)), none] [] h 0 0 := by
    intro n
    induction n with
    | zero => intro i h3 h4; omega
    | succ n ih =>
      intro i h3 h4
      refine s_iload_n hP t46_4 rfl ?_
      refine s_iconst (v := 3) hP t46_5 (by decide) ?_
      refine s_icmp_ge hP t46_6 (fun q6 => ?_) (fun q6 => ?_)
      · have e9 : 3 ≤ i := mi_leN (by decide) (by omega) q6
        refine s_iload_n hP t46_53 rfl ?_
        refine s_ireturn hP t46_54 rfl rfl ?_
        obtain rfl : i = 3 := by omega
        exact k
      · have e9 : i < 3 := mi_nleN (a := 3) (by decide) (by omega) q6
        refine s_iload_n hP t46_9 rfl ?_
        refine s_iconst (v := 3) hP t46_10 (by decide) ?_
        refine s_imul hP t46_11 ?_
        refine s_iload_n hP t46_12 rfl ?_
        refine s_iadd hP t46_13 ?_
        rw [mp_idx]
        refine s_istore_4 hP t46_14 (by exact rfl) ?_
        refine s_iload hP t46_16 rfl ?_
        refine s_iconst (v := 0) hP t46_18 (by decide) ?_
        refine s_aload_n hP t46_19 rfl ?_
        refine s_getfield hP t46_20 h1 rfl ?_
        refine s_arraylength hP t46_23 g2 rfl ?_
        refine s_iconst (v := 1) hP t46_24 (by decide) ?_
        refine s_isub hP t46_25 ?_
        refine s_invokestatic (bc' := 0) (bs' := 0) hP t46_26 rfl rfl rfl rfl rfl ?_
        refine sp84 ?_
        rw [show mi_iw (nI (3 * l + i)) 0 (Int32.ofNat 306 - 1) = true from mi_iw_at (N := 305) (by decide) (by omega)]
        refine s_zeq hP t46_29 (fun q29 => ?_) (fun q29 => ?_)
        · cases q29
        · refine s_iload_n hP t46_32 rfl ?_
          refine s_aload_n hP t46_33 rfl ?_
          refine s_getfield hP t46_34 h1 rfl ?_
          refine s_iload hP t46_37 rfl ?_
          refine s_iaload hP t46_39 g2 (vp_in_nI (by omega) (by decide)) ?_
          rw [nI_clamp (by omega)]
          refine s_invokestatic (bc' := 0) (bs' := 0) hP t46_40 rfl rfl rfl rfl rfl ?_
          refine sp158 ?_
          refine s_invokestatic (bc' := 0) (bs' := 0) hP t46_43 rfl rfl rfl rfl rfl ?_
          refine sp159 ?_
          refine s_istore_n_2 hP t46_46 (by exact rfl) ?_
          refine s_iinc_3 (v := 1) hP t46_47 (by decide) (by exact rfl) ?_
          refine s_goto hP t46_50 ?_
          rw [nI_1]
          refine hm _ _ _ _ _ _ _ (by repeat (first | exact am_le_nil | apply am_le_cons | apply am_le_none)) (ih (i + 1) (by omega) (by omega))
  refine s_iconst (v := 0) hP t46_0 (by decide) ?_
  refine s_istore_n_2 hP t46_1 (by exact rfl) ?_
  refine s_iconst (v := 0) hP t46_2 (by decide) ?_
  refine s_istore_n_3 hP t46_3 (by exact rfl) ?_
  exact loop 4 0 (by omega) (by omega)
set_option maxHeartbeats 1000000 in
theorem sp47 {d : Nat} {K : am_K} {h : am_H} {a b1 b2 b3 : Nat} {lg : Int32} {f g : Nat → Int32} (h1 : am_nth h a = some (.inr (3, [.ref b1, .ref b2, .ref b3, .int lg]))) (g1 : am_get am_ro h b1 = some (.inl (0, 306, .inl f))) (g2 : am_get am_ro h b2 = some (.inl (0, 306, .inl g))) {l i : Nat} {x y : Int32} (hl : l < 102) (hi : i < 3) (k : K (some (.int (if y = 0 then 0 else f (3 * l + i) + g (3 * l + i) * x / y))) h) : am_Run (d + 1) 47 [.ref a, .int (nI l), .int (nI i), .int x, .int y] h K := by
  refine ⟨rfl, fun P hm hP => ?_⟩
  show P 0 [some (.ref a), some (.int (nI l)), some (.int (nI i)), some (.int x), some (.int y), none] [] _ 0 0
  refine s_iload_n hP t47_0 rfl ?_
  refine s_iconst (v := 3) hP t47_1 (by decide) ?_
  refine s_imul hP t47_2 ?_
  refine s_iload_n hP t47_3 rfl ?_
  refine s_iadd hP t47_4 ?_
  rw [mp_idx]
  refine s_istore_5 hP t47_5 (by exact rfl) ?_
  refine s_iload hP t47_7 rfl ?_
  refine s_if_eq hP t47_9 (fun q9 => ?_) (fun q9 => ?_)
  · refine s_iconst (v := 0) hP t47_27 (by decide) ?_
    refine s_ireturn hP t47_28 rfl rfl ?_
    rw [if_pos q9] at k
    exact k
  · refine s_iload hP t47_12 rfl ?_
    refine s_if_lt hP t47_14 (fun q14 => ?_) (fun q14 => ?_)
    · exact absurd q14 (nI_pos (by omega))
    · refine s_iload hP t47_17 rfl ?_
      refine s_aload_n hP t47_19 rfl ?_
      refine s_getfield hP t47_20 h1 rfl ?_
      refine s_arraylength hP t47_23 g1 rfl ?_
      refine s_icmp_lt hP t47_24 (fun q24 => ?_) (fun q24 => ?_)
      · refine s_aload_n hP t47_29 rfl ?_
        refine s_getfield hP t47_30 h1 rfl ?_
        refine s_iload hP t47_33 rfl ?_
        refine s_iaload hP t47_35 g1 (vp_in_nI (by omega) (by decide)) ?_
        rw [nI_clamp (by omega)]
        refine s_aload_n hP t47_36 rfl ?_
        refine s_getfield hP t47_37 h1 rfl ?_
        refine s_iload hP t47_40 rfl ?_
        refine s_iaload hP t47_42 g2 (vp_in_nI (by omega) (by decide)) ?_
        rw [nI_clamp (by omega)]
        refine s_iload_n hP t47_43 rfl ?_
        refine s_imul hP t47_44 ?_
        refine s_iload hP t47_45 rfl ?_
        refine s_idiv hP t47_47 q9 ?_
        refine s_iadd hP t47_48 ?_
        refine s_ireturn hP t47_49 rfl rfl ?_
        rw [if_neg q9] at k
        exact k
      · exact absurd (nI_lt (a := 3 * l + i) (b := 306) (by omega) (by decide)) q24
set_option maxHeartbeats 1000000 in
theorem sp45 {d : Nat} {K : am_K} {h : am_H} {a b1 b2 b3 : Nat} {lg : Int32} {e : Nat → Int32} (h1 : am_nth h a = some (.inr (3, [.ref b1, .ref b2, .ref b3, .int lg]))) (g3 : am_get am_ro h b3 = some (.inl (0, 3, .inl e))) {i : Nat} (hi : i < 3) (k : K (some (.int (e i))) h) : am_Run (d + 2) 45 [.ref a, .int (nI i)] h K := by
  refine ⟨rfl, fun P hm hP => ?_⟩
  show P 0 [some (.ref a), some (.int (nI i))] [] _ 0 0
  refine s_iload_n hP t45_0 rfl ?_
  refine s_iconst (v := 0) hP t45_1 (by decide) ?_
  refine s_iconst (v := 2) hP t45_2 (by decide) ?_
  refine s_invokestatic (bc' := 0) (bs' := 0) hP t45_3 rfl rfl rfl rfl rfl ?_
  refine sp84 ?_
  rw [show mi_iw (nI i) 0 2 = true from mi_iw_at (N := 2) (by decide) (by omega)]
  refine s_zeq hP t45_6 (fun q6 => ?_) (fun q6 => ?_)
  · cases q6
  · refine s_aload_n hP t45_9 rfl ?_
    refine s_getfield hP t45_10 h1 rfl ?_
    refine s_iload_n hP t45_13 rfl ?_
    refine s_iaload hP t45_14 g3 (vp_in_nI (by omega) (by decide)) ?_
    rw [nI_clamp (by omega)]
    refine s_goto hP t45_15 ?_
    refine s_ireturn hP t45_19 rfl rfl ?_
    exact k
def mp_out (f g : Nat → Int32) (j : Nat) : Bool := !mi_place (f (3 * j) + g (3 * j)) (f (3 * j + 1) + g (3 * j + 1)) (f (3 * j + 2) + g (3 * j + 2))
set_option maxHeartbeats 2000000 in
theorem sp48 {d : Nat} {K : am_K} {h : am_H} {L a b1 b2 b3 : Nat} {f g : Nat → Int32} (h1 : am_nth h a = some (.inr (3, [.ref b1, .ref b2, .ref b3, .int (nI L)]))) (g1 : am_get am_ro h b1 = some (.inl (0, 306, .inl f))) (g2 : am_get am_ro h b2 = some (.inl (0, 306, .inl g))) (hL : L ≤ 102) (k : ∀ v : Bool, (v = true ↔ ∃ j, j < L ∧ mp_out f g j = true) → K (some (.int (am_b v))) h) : am_Run (d + 3) 48 [.ref a] h K := by
  refine ⟨rfl, fun P hm hP => ?_⟩
  show P 0 [some (.ref a), none] [] _ 0 0
  have loop : ∀ (n i : Nat), i ≤ L → L + 1 ≤ i + n → (∀ j, j < i → mp_out f g j = false) → P 2 [some (.ref a), some (.int (nI (3 * i)))] [] h 0 0 := by
    intro n
    induction n with
    | zero => intro i h3 h4; omega
    | succ n ih =>
      intro i h3 h4 hi
      refine s_iload_n hP t48_2 rfl ?_
      refine s_aload_n hP t48_3 rfl ?_
      refine s_getfield hP t48_4 h1 rfl ?_
      refine s_iconst (v := 3) hP t48_7 (by decide) ?_
      refine s_imul hP t48_8 ?_
      rw [show nI L * 3 = nI (3 * L) by rw [show (3 : Int32) = nI 3 from rfl, pk_mul, Nat.mul_comm]]
      refine s_icmp_ge hP t48_9 (fun q9 => ?_) (fun q9 => ?_)
      · have e9 : L ≤ i := by
          have := (nI_leI (by omega) (by omega)).mp q9
          omega
        refine s_iconst (v := 0) hP t48_73 (by decide) ?_
        refine s_ireturn hP t48_74 rfl rfl ?_
        obtain rfl : i = L := by omega
        exact k false ⟨fun q => (by cases q), fun ⟨j, hj, hjo⟩ => by rw [hi j hj] at hjo; cases hjo⟩
      · have e9 : i < L := by
          have : ¬ 3 * L ≤ 3 * i := fun q => q9 ((nI_leI (by omega) (by omega)).mpr q)
          omega
        refine s_aload_n hP t48_12 rfl ?_
        refine s_getfield hP t48_13 h1 rfl ?_
        refine s_iload_n hP t48_16 rfl ?_
        refine s_iaload hP t48_17 g1 (vp_in_nI (by omega) (by decide)) ?_
        rw [nI_clamp (by omega)]
        refine s_aload_n hP t48_18 rfl ?_
        refine s_getfield hP t48_19 h1 rfl ?_
        refine s_iload_n hP t48_22 rfl ?_
        refine s_iaload hP t48_23 g2 (vp_in_nI (by omega) (by decide)) ?_
        rw [nI_clamp (by omega)]
        refine s_iadd hP t48_24 ?_
        refine s_aload_n hP t48_25 rfl ?_
        refine s_getfield hP t48_26 h1 rfl ?_
        refine s_iload_n hP t48_29 rfl ?_
        refine s_iconst (v := 1) hP t48_30 (by decide) ?_
        refine s_iadd hP t48_31 ?_
        rw [show nI (3 * i) + 1 = nI (3 * i + 1) from nI_add (3 * i) 1]
        refine s_iaload hP t48_32 g1 (vp_in_nI (by omega) (by decide)) ?_
        rw [nI_clamp (by omega)]
        refine s_aload_n hP t48_33 rfl ?_
        refine s_getfield hP t48_34 h1 rfl ?_
        refine s_iload_n hP t48_37 rfl ?_
        refine s_iconst (v := 1) hP t48_38 (by decide) ?_
        refine s_iadd hP t48_39 ?_
        rw [show nI (3 * i) + 1 = nI (3 * i + 1) from nI_add (3 * i) 1]
        refine s_iaload hP t48_40 g2 (vp_in_nI (by omega) (by decide)) ?_
        rw [nI_clamp (by omega)]
        refine s_iadd hP t48_41 ?_
        refine s_aload_n hP t48_42 rfl ?_
        refine s_getfield hP t48_43 h1 rfl ?_
        refine s_iload_n hP t48_46 rfl ?_
        refine s_iconst (v := 2) hP t48_47 (by decide) ?_
        refine s_iadd hP t48_48 ?_
        rw [show nI (3 * i) + 2 = nI (3 * i + 2) from nI_add (3 * i) 2]
        refine s_iaload hP t48_49 g1 (vp_in_nI (by omega) (by decide)) ?_
        rw [nI_clamp (by omega)]
        refine s_aload_n hP t48_50 rfl ?_
        refine s_getfield hP t48_51 h1 rfl ?_
        refine s_iload_n hP t48_54 rfl ?_
        refine s_iconst (v := 2) hP t48_55 (by decide) ?_
        refine s_iadd hP t48_56 ?_
        rw [show nI (3 * i) + 2 = nI (3 * i + 2) from nI_add (3 * i) 2]
        refine s_iaload hP t48_57 g2 (vp_in_nI (by omega) (by decide)) ?_
        rw [nI_clamp (by omega)]
        refine s_iadd hP t48_58 ?_
        refine s_invokestatic (bc' := 0) (bs' := 0) hP t48_59 rfl rfl rfl rfl rfl ?_
        refine sp86 ?_
        refine s_zne hP t48_62 (fun q62 => ?_) (fun q62 => ?_)
        · refine s_iinc_1 (v := 3) hP t48_67 (by decide) (by exact rfl) ?_
          refine s_goto hP t48_70 ?_
          rw [show nI (3 * i) + 3 = nI (3 * (i + 1)) from nI_add (3 * i) 3]
          exact ih (i + 1) (by omega) (by omega) (fun j hj => by
            by_cases hji : j = i
            · rw [hji, mp_out, q62]; rfl
            · exact hi j (by omega))
        · refine s_iconst (v := 1) hP t48_65 (by decide) ?_
          refine s_ireturn hP t48_66 rfl rfl ?_
          exact k true ⟨fun _ => ⟨i, e9, by rw [mp_out, q62]; rfl⟩, fun _ => rfl⟩
  refine s_iconst (v := 0) hP t48_0 (by decide) ?_
  refine s_istore_n_1 hP t48_1 (by exact rfl) ?_
  exact loop (L + 1) 0 (by omega) (by omega) (fun j hj => by omega)
set_option maxHeartbeats 1000000 in
theorem sp42_1 {d : Nat} {K : am_K} {ha : Nat → Nat → Int32} {hz : Int32} {a1 : Nat → Nat → Int32} {s1 : Nat → Int32} {t1 : UInt32} {a2 : Nat → Nat → Int32} {s2 : Nat → Int32} {t2 : UInt32} {al : Int32} {ma : Nat → Nat → Int32} {ms : Nat → Int32} {mt : UInt32} {ol : Nat → Int64} {od : Nat → UInt64} (k : K none (am_W ha hz a1 (am_u1 s1 20 0) t1 a2 s2 t2 al ma ms mt ol od)) : am_Run (d + 1) 42 [.ref 22] (am_W ha hz a1 s1 t1 a2 s2 t2 al ma ms mt ol od) K := by
  refine ⟨rfl, fun P hm hP => ?_⟩
  show P 0 [some (.ref 22)] [] _ 0 0
  refine s_aload_n hP t42_0 rfl ?_
  refine s_iconst (v := 0) hP t42_1 (by decide) ?_
  refine s_putfield hP t42_2 rfl rfl rfl rfl ?_
  refine s_return_ hP t42_5 rfl ?_
  exact k
def mp_3 (f : Nat → Int32) (k : Nat) (x y z : Int32) : Nat → Int32 := upd (upd (upd f k x) (k + 1) y) (k + 2) z
set_option maxHeartbeats 4000000 in
theorem sp43_1 {d : Nat} {K : am_K} {ha : Nat → Nat → Int32} {hz : Int32} {a1 : Nat → Nat → Int32} {s1 : Nat → Int32} {t1 : UInt32} {a2 : Nat → Nat → Int32} {s2 : Nat → Int32} {t2 : UInt32} {al : Int32} {ma : Nat → Nat → Int32} {ms : Nat → Int32} {mt : UInt32} {ol : Nat → Int64} {od : Nat → UInt64} {L : Nat} {x y z u v w : Int32} (hL : s1 20 = nI L) (hL9 : L < 102) (k : K none (am_W ha hz (am_u2 (am_u2 a1 5 (mp_3 (a1 5) (3 * L) x y z)) 6 (mp_3 (a1 6) (3 * L) (u - x) (v - y) (w - z))) (am_u1 s1 20 (nI (L + 1))) t1 a2 s2 t2 al ma ms mt ol od)) : am_Run (d + 1) 43 [.ref 22, .int x, .int y, .int z, .int u, .int v, .int w] (am_W ha hz a1 s1 t1 a2 s2 t2 al ma ms mt ol od) K := by
  refine ⟨rfl, fun P hm hP => ?_⟩
  show P 0 [some (.ref 22), some (.int x), some (.int y), some (.int z), some (.int u), some (.int v), some (.int w), none] [] _ 0 0
  refine s_aload_n hP t43_0 rfl ?_
  refine s_getfield hP t43_1 rfl rfl ?_
  refine s_bipush (v := 102) hP t43_4 (by decide) ?_
  refine s_icmp_lt hP t43_6 (fun q6 => ?_) (fun q6 => ?_)
  · refine s_aload_n hP t43_10 rfl ?_
    refine s_getfield hP t43_11 rfl rfl ?_
    refine s_iconst (v := 3) hP t43_14 (by decide) ?_
    refine s_imul hP t43_15 ?_
    rw [hL, show nI L * 3 = nI (3 * L) by rw [show (3 : Int32) = nI 3 from rfl, pk_mul, Nat.mul_comm]]
    refine s_istore_7 hP t43_16 (by exact rfl) ?_
    refine s_aload_n hP t43_18 rfl ?_
    refine s_getfield hP t43_19 rfl rfl ?_
    refine s_iload hP t43_22 rfl ?_
    refine s_iload_n hP t43_24 rfl ?_
    refine s_iastore hP t43_25 rfl (vp_in_nI (by omega) (by decide)) ?_
    rw [nI_clamp (by omega)]
    refine s_aload_n hP t43_26 rfl ?_
    refine s_getfield hP t43_27 rfl rfl ?_
    refine s_iload hP t43_30 rfl ?_
    refine s_iconst (v := 1) hP t43_32 (by decide) ?_
    refine s_iadd hP t43_33 ?_
    rw [show nI (3 * L) + 1 = nI (3 * L + 1) from nI_add (3 * L) 1]
    refine s_iload_n hP t43_34 rfl ?_
    refine s_iastore hP t43_35 rfl (vp_in_nI (by omega) (by decide)) ?_
    rw [nI_clamp (by omega)]
    refine s_aload_n hP t43_36 rfl ?_
    refine s_getfield hP t43_37 rfl rfl ?_
    refine s_iload hP t43_40 rfl ?_
    refine s_iconst (v := 2) hP t43_42 (by decide) ?_
    refine s_iadd hP t43_43 ?_
    rw [show nI (3 * L) + 2 = nI (3 * L + 2) from nI_add (3 * L) 2]
    refine s_iload_n hP t43_44 rfl ?_
    refine s_iastore hP t43_45 rfl (vp_in_nI (by omega) (by decide)) ?_
    rw [nI_clamp (by omega)]
    refine s_aload_n hP t43_46 rfl ?_
    refine s_getfield hP t43_47 rfl rfl ?_
    refine s_iload hP t43_50 rfl ?_
    refine s_iload hP t43_52 rfl ?_
    refine s_iload_n hP t43_54 rfl ?_
    refine s_isub hP t43_55 ?_
    refine s_iastore hP t43_56 rfl (vp_in_nI (by omega) (by decide)) ?_
    rw [nI_clamp (by omega)]
    refine s_aload_n hP t43_57 rfl ?_
    refine s_getfield hP t43_58 rfl rfl ?_
    refine s_iload hP t43_61 rfl ?_
    refine s_iconst (v := 1) hP t43_63 (by decide) ?_
    refine s_iadd hP t43_64 ?_
    rw [show nI (3 * L) + 1 = nI (3 * L + 1) from nI_add (3 * L) 1]
    refine s_iload hP t43_65 rfl ?_
    refine s_iload_n hP t43_67 rfl ?_
    refine s_isub hP t43_68 ?_
    refine s_iastore hP t43_69 rfl (vp_in_nI (by omega) (by decide)) ?_
    rw [nI_clamp (by omega)]
    refine s_aload_n hP t43_70 rfl ?_
    refine s_getfield hP t43_71 rfl rfl ?_
    refine s_iload hP t43_74 rfl ?_
    refine s_iconst (v := 2) hP t43_76 (by decide) ?_
    refine s_iadd hP t43_77 ?_
    rw [show nI (3 * L) + 2 = nI (3 * L + 2) from nI_add (3 * L) 2]
    refine s_iload hP t43_78 rfl ?_
    refine s_iload_n hP t43_80 rfl ?_
    refine s_isub hP t43_81 ?_
    refine s_iastore hP t43_82 rfl (vp_in_nI (by omega) (by decide)) ?_
    rw [nI_clamp (by omega)]
    refine s_aload_n hP t43_83 rfl ?_
    refine s_dup hP t43_84 rfl ?_
    refine s_getfield hP t43_85 rfl rfl ?_
    refine s_iconst (v := 1) hP t43_88 (by decide) ?_
    refine s_iadd hP t43_89 ?_
    rw [hL, nI_1]
    refine s_putfield hP t43_90 rfl rfl rfl rfl ?_
    refine s_return_ hP t43_93 rfl ?_
    exact k
  · exact absurd (by rw [hL]; exact nI_lt (b := 102) hL9 (by decide)) q6
set_option maxHeartbeats 2000000 in
theorem sp44_1 {d : Nat} {K : am_K} {ha : Nat → Nat → Int32} {hz : Int32} {a1 : Nat → Nat → Int32} {s1 : Nat → Int32} {t1 : UInt32} {a2 : Nat → Nat → Int32} {s2 : Nat → Int32} {t2 : UInt32} {al : Int32} {ma : Nat → Nat → Int32} {ms : Nat → Int32} {mt : UInt32} {ol : Nat → Int64} {od : Nat → UInt64} {x y z : Int32} (k : K none (am_W ha hz (am_u2 a1 7 (mp_3 (a1 7) 0 x y z)) s1 t1 a2 s2 t2 al ma ms mt ol od)) : am_Run (d + 1) 44 [.ref 22, .int x, .int y, .int z] (am_W ha hz a1 s1 t1 a2 s2 t2 al ma ms mt ol od) K := by
  refine ⟨rfl, fun P hm hP => ?_⟩
  show P 0 [some (.ref 22), some (.int x), some (.int y), some (.int z)] [] _ 0 0
  refine s_aload_n hP t44_0 rfl ?_
  refine s_getfield hP t44_1 rfl rfl ?_
  refine s_iconst (v := 0) hP t44_4 (by decide) ?_
  refine s_iload_n hP t44_5 rfl ?_
  refine s_iastore hP t44_6 rfl (vp_in_nI (n := 0) (by decide) (by decide)) ?_
  refine s_aload_n hP t44_7 rfl ?_
  refine s_getfield hP t44_8 rfl rfl ?_
  refine s_iconst (v := 1) hP t44_11 (by decide) ?_
  refine s_iload_n hP t44_12 rfl ?_
  refine s_iastore hP t44_13 rfl (vp_in_nI (n := 1) (by decide) (by decide)) ?_
  refine s_aload_n hP t44_14 rfl ?_
  refine s_getfield hP t44_15 rfl rfl ?_
  refine s_iconst (v := 2) hP t44_18 (by decide) ?_
  refine s_iload_n hP t44_19 rfl ?_
  refine s_iastore hP t44_20 rfl (vp_in_nI (n := 2) (by decide) (by decide)) ?_
  refine s_return_ hP t44_21 rfl ?_
  exact k
set_option maxHeartbeats 1000000 in
theorem sp62_1 {d : Nat} {K : am_K} {ha : Nat → Nat → Int32} {hz : Int32} {a1 : Nat → Nat → Int32} {s1 : Nat → Int32} {t1 : UInt32} {a2 : Nat → Nat → Int32} {s2 : Nat → Int32} {t2 : UInt32} {al : Int32} {ma : Nat → Nat → Int32} {ms : Nat → Int32} {mt : UInt32} {ol : Nat → Int64} {od : Nat → UInt64} {x y : Int32} (k : K none (am_W ha hz a1 (am_u1 (am_u1 s1 21 x) 22 y) t1 a2 s2 t2 al ma ms mt ol od)) : am_Run (d + 1) 62 [.ref 26, .int x, .int y] (am_W ha hz a1 s1 t1 a2 s2 t2 al ma ms mt ol od) K := by
  refine ⟨rfl, fun P hm hP => ?_⟩
  show P 0 [some (.ref 26), some (.int x), some (.int y)] [] _ 0 0
  refine s_aload_n hP t62_0 rfl ?_
  refine s_iload_n hP t62_1 rfl ?_
  refine s_putfield hP t62_2 rfl rfl rfl rfl ?_
  refine s_aload_n hP t62_5 rfl ?_
  refine s_iload_n hP t62_6 rfl ?_
  refine s_putfield hP t62_7 rfl rfl rfl rfl ?_
  refine s_return_ hP t62_10 rfl ?_
  exact k
set_option maxHeartbeats 1000000 in
theorem sp63_1 {d : Nat} {K : am_K} {ha : Nat → Nat → Int32} {hz : Int32} {a1 : Nat → Nat → Int32} {s1 : Nat → Int32} {t1 : UInt32} {a2 : Nat → Nat → Int32} {s2 : Nat → Int32} {t2 : UInt32} {al : Int32} {ma : Nat → Nat → Int32} {ms : Nat → Int32} {mt : UInt32} {ol : Nat → Int64} {od : Nat → UInt64} {x y z : Int32} (k : K none (am_W ha hz a1 (am_u1 (am_u1 (am_u1 s1 23 x) 24 y) 25 z) t1 a2 s2 t2 al ma ms mt ol od)) : am_Run (d + 1) 63 [.ref 26, .int x, .int y, .int z] (am_W ha hz a1 s1 t1 a2 s2 t2 al ma ms mt ol od) K := by
  refine ⟨rfl, fun P hm hP => ?_⟩
  show P 0 [some (.ref 26), some (.int x), some (.int y), some (.int z)] [] _ 0 0
  refine s_aload_n hP t63_0 rfl ?_
  refine s_iload_n hP t63_1 rfl ?_
  refine s_putfield hP t63_2 rfl rfl rfl rfl ?_
  refine s_aload_n hP t63_5 rfl ?_
  refine s_iload_n hP t63_6 rfl ?_
  refine s_putfield hP t63_7 rfl rfl rfl rfl ?_
  refine s_aload_n hP t63_10 rfl ?_
  refine s_iload_n hP t63_11 rfl ?_
  refine s_putfield hP t63_12 rfl rfl rfl rfl ?_
  refine s_return_ hP t63_15 rfl ?_
  exact k
set_option maxHeartbeats 1000000 in
theorem sp14_1 {d : Nat} {K : am_K} {ha : Nat → Nat → Int32} {hz : Int32} {a1 : Nat → Nat → Int32} {s1 : Nat → Int32} {t1 : UInt32} {a2 : Nat → Nat → Int32} {s2 : Nat → Int32} {t2 : UInt32} {al : Int32} {ma : Nat → Nat → Int32} {ms : Nat → Int32} {mt : UInt32} {ol : Nat → Int64} {od : Nat → UInt64} (k : K (some (.int (mi_sum 12 (a1 1)))) (am_W ha hz a1 s1 t1 a2 s2 t2 al ma ms mt ol od)) : am_Run (d + 1) 14 [.ref 15] (am_W ha hz a1 s1 t1 a2 s2 t2 al ma ms mt ol od) K := by
  refine ⟨rfl, fun P hm hP => ?_⟩
  show P 0 [some (.ref 15), none, none] [] _ 0 0
  have loop : ∀ (n i : Nat), i ≤ 12 → 12 + 1 ≤ i + n → P 4 [some (.ref 15), some (.int (mi_sum i (a1 1))), some (.int (nI i))] [] (am_W ha hz a1 s1 t1 a2 s2 t2 al ma ms mt ol od) 0 0 := by
    intro n
    induction n with
    | zero => intro i h3 h4; omega
    | succ n ih =>
      intro i h3 h4
      refine s_iload_n hP t14_4 rfl ?_
      refine s_bipush (v := 12) hP t14_5 (by decide) ?_
      refine s_icmp_ge hP t14_7 (fun q7 => ?_) (fun q7 => ?_)
      · have e9 : 12 ≤ i := mi_leN (by decide) (by omega) q7
        refine s_iload_n hP t14_25 rfl ?_
        refine s_ireturn hP t14_26 rfl rfl ?_
        obtain rfl : i = 12 := by omega
        exact k
      · have e9 : i < 12 := mi_nleN (a := 12) (by decide) (by omega) q7
        refine s_iload_n hP t14_10 rfl ?_
        refine s_aload_n hP t14_11 rfl ?_
        refine s_getfield hP t14_12 rfl rfl ?_
        refine s_iload_n hP t14_15 rfl ?_
        refine s_iaload hP t14_16 rfl (vp_in_nI e9 (by decide)) ?_
        rw [nI_clamp (by omega)]
        refine s_iadd hP t14_17 ?_
        refine s_istore_n_1 hP t14_18 (by exact rfl) ?_
        refine s_iinc_2 (v := 1) hP t14_19 (by decide) (by exact rfl) ?_
        refine s_goto hP t14_22 ?_
        rw [nI_1]
        exact ih (i + 1) (by omega) (by omega)
  refine s_iconst (v := 0) hP t14_0 (by decide) ?_
  refine s_istore_n_1 hP t14_1 (by exact rfl) ?_
  refine s_iconst (v := 0) hP t14_2 (by decide) ?_
  refine s_istore_n_2 hP t14_3 (by exact rfl) ?_
  exact loop 13 0 (by omega) (by omega)
set_option maxHeartbeats 1000000 in
theorem sp42_2 {d : Nat} {K : am_K} {ha : Nat → Nat → Int32} {hz : Int32} {a1 : Nat → Nat → Int32} {s1 : Nat → Int32} {t1 : UInt32} {a2 : Nat → Nat → Int32} {s2 : Nat → Int32} {t2 : UInt32} {al : Int32} {ma : Nat → Nat → Int32} {ms : Nat → Int32} {mt : UInt32} {ol : Nat → Int64} {od : Nat → UInt64} (k : K none (am_W ha hz a1 s1 t1 a2 (am_u1 s2 20 0) t2 al ma ms mt ol od)) : am_Run (d + 1) 42 [.ref 34] (am_W ha hz a1 s1 t1 a2 s2 t2 al ma ms mt ol od) K := by
  refine ⟨rfl, fun P hm hP => ?_⟩
  show P 0 [some (.ref 34)] [] _ 0 0
  refine s_aload_n hP t42_0 rfl ?_
  refine s_iconst (v := 0) hP t42_1 (by decide) ?_
  refine s_putfield hP t42_2 rfl rfl rfl rfl ?_
  refine s_return_ hP t42_5 rfl ?_
  exact k
set_option maxHeartbeats 4000000 in
theorem sp43_2 {d : Nat} {K : am_K} {ha : Nat → Nat → Int32} {hz : Int32} {a1 : Nat → Nat → Int32} {s1 : Nat → Int32} {t1 : UInt32} {a2 : Nat → Nat → Int32} {s2 : Nat → Int32} {t2 : UInt32} {al : Int32} {ma : Nat → Nat → Int32} {ms : Nat → Int32} {mt : UInt32} {ol : Nat → Int64} {od : Nat → UInt64} {L : Nat} {x y z u v w : Int32} (hL : s2 20 = nI L) (hL9 : L < 102) (k : K none (am_W ha hz a1 s1 t1 (am_u2 (am_u2 a2 5 (mp_3 (a2 5) (3 * L) x y z)) 6 (mp_3 (a2 6) (3 * L) (u - x) (v - y) (w - z))) (am_u1 s2 20 (nI (L + 1))) t2 al ma ms mt ol od)) : am_Run (d + 1) 43 [.ref 34, .int x, .int y, .int z, .int u, .int v, .int w] (am_W ha hz a1 s1 t1 a2 s2 t2 al ma ms mt ol od) K := by
  refine ⟨rfl, fun P hm hP => ?_⟩
  show P 0 [some (.ref 34), some (.int x), some (.int y), some (.int z), some (.int u), some (.int v), some (.int w), none] [] _ 0 0
  refine s_aload_n hP t43_0 rfl ?_
  refine s_getfield hP t43_1 rfl rfl ?_
  refine s_bipush (v := 102) hP t43_4 (by decide) ?_
  refine s_icmp_lt hP t43_6 (fun q6 => ?_) (fun q6 => ?_)
  · refine s_aload_n hP t43_10 rfl ?_
    refine s_getfield hP t43_11 rfl rfl ?_
    refine s_iconst (v := 3) hP t43_14 (by decide) ?_
    refine s_imul hP t43_15 ?_
    rw [hL, show nI L * 3 = nI (3 * L) by rw [show (3 : Int32) = nI 3 from rfl, pk_mul, Nat.mul_comm]]
    refine s_istore_7 hP t43_16 (by exact rfl) ?_
    refine s_aload_n hP t43_18 rfl ?_
    refine s_getfield hP t43_19 rfl rfl ?_
    refine s_iload hP t43_22 rfl ?_
    refine s_iload_n hP t43_24 rfl ?_
    refine s_iastore hP t43_25 rfl (vp_in_nI (by omega) (by decide)) ?_
    rw [nI_clamp (by omega)]
    refine s_aload_n hP t43_26 rfl ?_
    refine s_getfield hP t43_27 rfl rfl ?_
    refine s_iload hP t43_30 rfl ?_
    refine s_iconst (v := 1) hP t43_32 (by decide) ?_
    refine s_iadd hP t43_33 ?_
    rw [show nI (3 * L) + 1 = nI (3 * L + 1) from nI_add (3 * L) 1]
    refine s_iload_n hP t43_34 rfl ?_
    refine s_iastore hP t43_35 rfl (vp_in_nI (by omega) (by decide)) ?_
    rw [nI_clamp (by omega)]
    refine s_aload_n hP t43_36 rfl ?_
    refine s_getfield hP t43_37 rfl rfl ?_
    refine s_iload hP t43_40 rfl ?_
    refine s_iconst (v := 2) hP t43_42 (by decide) ?_
    refine s_iadd hP t43_43 ?_
    rw [show nI (3 * L) + 2 = nI (3 * L + 2) from nI_add (3 * L) 2]
    refine s_iload_n hP t43_44 rfl ?_
    refine s_iastore hP t43_45 rfl (vp_in_nI (by omega) (by decide)) ?_
    rw [nI_clamp (by omega)]
    refine s_aload_n hP t43_46 rfl ?_
    refine s_getfield hP t43_47 rfl rfl ?_
    refine s_iload hP t43_50 rfl ?_
    refine s_iload hP t43_52 rfl ?_
    refine s_iload_n hP t43_54 rfl ?_
    refine s_isub hP t43_55 ?_
    refine s_iastore hP t43_56 rfl (vp_in_nI (by omega) (by decide)) ?_
    rw [nI_clamp (by omega)]
    refine s_aload_n hP t43_57 rfl ?_
    refine s_getfield hP t43_58 rfl rfl ?_
    refine s_iload hP t43_61 rfl ?_
    refine s_iconst (v := 1) hP t43_63 (by decide) ?_
    refine s_iadd hP t43_64 ?_
    rw [show nI (3 * L) + 1 = nI (3 * L + 1) from nI_add (3 * L) 1]
    refine s_iload hP t43_65 rfl ?_
    refine s_iload_n hP t43_67 rfl ?_
    refine s_isub hP t43_68 ?_
    refine s_iastore hP t43_69 rfl (vp_in_nI (by omega) (by decide)) ?_
    rw [nI_clamp (by omega)]
    refine s_aload_n hP t43_70 rfl ?_
    refine s_getfield hP t43_71 rfl rfl ?_
    refine s_iload hP t43_74 rfl ?_
    refine s_iconst (v := 2) hP t43_76 (by decide) ?_
    refine s_iadd hP t43_77 ?_
    rw [show nI (3 * L) + 2 = nI (3 * L + 2) from nI_add (3 * L) 2]
    refine s_iload hP t43_78 rfl ?_
    refine s_iload_n hP t43_80 rfl ?_
    refine s_isub hP t43_81 ?_
    refine s_iastore hP t43_82 rfl (vp_in_nI (by omega) (by decide)) ?_
    rw [nI_clamp (by omega)]
    refine s_aload_n hP t43_83 rfl ?_
    refine s_dup hP t43_84 rfl ?_
    refine s_getfield hP t43_85 rfl rfl ?_
    refine s_iconst (v := 1) hP t43_88 (by decide) ?_
    refine s_iadd hP t43_89 ?_
    rw [hL, nI_1]
    refine s_putfield hP t43_90 rfl rfl rfl rfl ?_
    refine s_return_ hP t43_93 rfl ?_
    exact k
  · exact absurd (by rw [hL]; exact nI_lt (b := 102) hL9 (by decide)) q6
set_option maxHeartbeats 2000000 in
theorem sp44_2 {d : Nat} {K : am_K} {ha : Nat → Nat → Int32} {hz : Int32} {a1 : Nat → Nat → Int32} {s1 : Nat → Int32} {t1 : UInt32} {a2 : Nat → Nat → Int32} {s2 : Nat → Int32} {t2 : UInt32} {al : Int32} {ma : Nat → Nat → Int32} {ms : Nat → Int32} {mt : UInt32} {ol : Nat → Int64} {od : Nat → UInt64} {x y z : Int32} (k : K none (am_W ha hz a1 s1 t1 (am_u2 a2 7 (mp_3 (a2 7) 0 x y z)) s2 t2 al ma ms mt ol od)) : am_Run (d + 1) 44 [.ref 34, .int x, .int y, .int z] (am_W ha hz a1 s1 t1 a2 s2 t2 al ma ms mt ol od) K := by
  refine ⟨rfl, fun P hm hP => ?_⟩
  show P 0 [some (.ref 34), some (.int x), some (.int y), some (.int z)] [] _ 0 0
  refine s_aload_n hP t44_0 rfl ?_
  refine s_getfield hP t44_1 rfl rfl ?_
  refine s_iconst (v := 0) hP t44_4 (by decide) ?_
  refine s_iload_n hP t44_5 rfl ?_
  refine s_iastore hP t44_6 rfl (vp_in_nI (n := 0) (by decide) (by decide)) ?_
  refine s_aload_n hP t44_7 rfl ?_
  refine s_getfield hP t44_8 rfl rfl ?_
  refine s_iconst (v := 1) hP t44_11 (by decide) ?_
  refine s_iload_n hP t44_12 rfl ?_
  refine s_iastore hP t44_13 rfl (vp_in_nI (n := 1) (by decide) (by decide)) ?_
  refine s_aload_n hP t44_14 rfl ?_
  refine s_getfield hP t44_15 rfl rfl ?_
  refine s_iconst (v := 2) hP t44_18 (by decide) ?_
  refine s_iload_n hP t44_19 rfl ?_
  refine s_iastore hP t44_20 rfl (vp_in_nI (n := 2) (by decide) (by decide)) ?_
  refine s_return_ hP t44_21 rfl ?_
  exact k
set_option maxHeartbeats 1000000 in
theorem sp62_2 {d : Nat} {K : am_K} {ha : Nat → Nat → Int32} {hz : Int32} {a1 : Nat → Nat → Int32} {s1 : Nat → Int32} {t1 : UInt32} {a2 : Nat → Nat → Int32} {s2 : Nat → Int32} {t2 : UInt32} {al : Int32} {ma : Nat → Nat → Int32} {ms : Nat → Int32} {mt : UInt32} {ol : Nat → Int64} {od : Nat → UInt64} {x y : Int32} (k : K none (am_W ha hz a1 s1 t1 a2 (am_u1 (am_u1 s2 21 x) 22 y) t2 al ma ms mt ol od)) : am_Run (d + 1) 62 [.ref 38, .int x, .int y] (am_W ha hz a1 s1 t1 a2 s2 t2 al ma ms mt ol od) K := by
  refine ⟨rfl, fun P hm hP => ?_⟩
  show P 0 [some (.ref 38), some (.int x), some (.int y)] [] _ 0 0
  refine s_aload_n hP t62_0 rfl ?_
  refine s_iload_n hP t62_1 rfl ?_
  refine s_putfield hP t62_2 rfl rfl rfl rfl ?_
  refine s_aload_n hP t62_5 rfl ?_
  refine s_iload_n hP t62_6 rfl ?_
  refine s_putfield hP t62_7 rfl rfl rfl rfl ?_
  refine s_return_ hP t62_10 rfl ?_
  exact k
set_option maxHeartbeats 1000000 in
theorem sp63_2 {d : Nat} {K : am_K} {ha : Nat → Nat → Int32} {hz : Int32} {a1 : Nat → Nat → Int32} {s1 : Nat → Int32} {t1 : UInt32} {a2 : Nat → Nat → Int32} {s2 : Nat → Int32} {t2 : UInt32} {al : Int32} {ma : Nat → Nat → Int32} {ms : Nat → Int32} {mt : UInt32} {ol : Nat → Int64} {od : Nat → UInt64} {x y z : Int32} (k : K none (am_W ha hz a1 s1 t1 a2 (am_u1 (am_u1 (am_u1 s2 23 x) 24 y) 25 z) t2 al ma ms mt ol od)) : am_Run (d + 1) 63 [.ref 38, .int x, .int y, .int z] (am_W ha hz a1 s1 t1 a2 s2 t2 al ma ms mt ol od) K := by
  refine ⟨rfl, fun P hm hP => ?_⟩
  show P 0 [some (.ref 38), some (.int x), some (.int y), some (.int z)] [] _ 0 0
  refine s_aload_n hP t63_0 rfl ?_
  refine s_iload_n hP t63_1 rfl ?_
  refine s_putfield hP t63_2 rfl rfl rfl rfl ?_
  refine s_aload_n hP t63_5 rfl ?_
  refine s_iload_n hP t63_6 rfl ?_
  refine s_putfield hP t63_7 rfl rfl rfl rfl ?_
  refine s_aload_n hP t63_10 rfl ?_
  refine s_iload_n hP t63_11 rfl ?_
  refine s_putfield hP t63_12 rfl rfl rfl rfl ?_
  refine s_return_ hP t63_15 rfl ?_
  exact k
set_option maxHeartbeats 1000000 in
theorem sp14_2 {d : Nat} {K : am_K} {ha : Nat → Nat → Int32} {hz : Int32} {a1 : Nat → Nat → Int32} {s1 : Nat → Int32} {t1 : UInt32} {a2 : Nat → Nat → Int32} {s2 : Nat → Int32} {t2 : UInt32} {al : Int32} {ma : Nat → Nat → Int32} {ms : Nat → Int32} {mt : UInt32} {ol : Nat → Int64} {od : Nat → UInt64} (k : K (some (.int (mi_sum 12 (a2 1)))) (am_W ha hz a1 s1 t1 a2 s2 t2 al ma ms mt ol od)) : am_Run (d + 1) 14 [.ref 27] (am_W ha hz a1 s1 t1 a2 s2 t2 al ma ms mt ol od) K := by
  refine ⟨rfl, fun P hm hP => ?_⟩
  show P 0 [some (.ref 27), none, none] [] _ 0 0
  have loop : ∀ (n i : Nat), i ≤ 12 → 12 + 1 ≤ i + n → P 4 [some (.ref 27), some (.int (mi_sum i (a2 1))), some (.int (nI i))] [] (am_W ha hz a1 s1 t1 a2 s2 t2 al ma ms mt ol od) 0 0 := by
    intro n
    induction n with
    | zero => intro i h3 h4; omega
    | succ n ih =>
      intro i h3 h4
      refine s_iload_n hP t14_4 rfl ?_
      refine s_bipush (v := 12) hP t14_5 (by decide) ?_
      refine s_icmp_ge hP t14_7 (fun q7 => ?_) (fun q7 => ?_)
      · have e9 : 12 ≤ i := mi_leN (by decide) (by omega) q7
        refine s_iload_n hP t14_25 rfl ?_
        refine s_ireturn hP t14_26 rfl rfl ?_
        obtain rfl : i = 12 := by omega
        exact k
      · have e9 : i < 12 := mi_nleN (a := 12) (by decide) (by omega) q7
        refine s_iload_n hP t14_10 rfl ?_
        refine s_aload_n hP t14_11 rfl ?_
        refine s_getfield hP t14_12 rfl rfl ?_
        refine s_iload_n hP t14_15 rfl ?_
        refine s_iaload hP t14_16 rfl (vp_in_nI e9 (by decide)) ?_
        rw [nI_clamp (by omega)]
        refine s_iadd hP t14_17 ?_
        refine s_istore_n_1 hP t14_18 (by exact rfl) ?_
        refine s_iinc_2 (v := 1) hP t14_19 (by decide) (by exact rfl) ?_
        refine s_goto hP t14_22 ?_
        rw [nI_1]
        exact ih (i + 1) (by omega) (by omega)
  refine s_iconst (v := 0) hP t14_0 (by decide) ?_
  refine s_istore_n_1 hP t14_1 (by exact rfl) ?_
  refine s_iconst (v := 0) hP t14_2 (by decide) ?_
  refine s_istore_n_2 hP t14_3 (by exact rfl) ?_
  exact loop 13 0 (by omega) (by omega)
