/-! WHAT MEETS AT A PLACE; THE ALARMS OF TOOLS AND CELLS. (rows by gen/sp14.py) -/
noncomputable def mx_d (p : Prop) : Bool := @decide p (Classical.propDecidable p)
theorem mx_d_iff {p : Prop} : mx_d p = true ↔ p := by
  unfold mx_d
  exact @decide_eq_true_iff p (Classical.propDecidable p)
theorem mx_d_eq {p : Prop} {v : Bool} (h : v = true ↔ p) : v = mx_d p := by
  rw [Bool.eq_iff_iff, mx_d_iff]
  exact h
def mx_meet (S : Nat → Bool) (sh R X Y Z : Nat) : Prop := ∃ q, q < 1152 ∧ S q = true ∧ mr_re sh R X Y Z q = true
/-- the least level from which no stock is met, from a level down -/
def me_lev (p : Nat → Bool) : Nat → Nat
  | 0 => 0
  | l + 1 => if p l = true then l + 1 else me_lev p l
def ml_ins (e : ml_L) : Bool := mi_place (e.1 + e.2.2.2.1) (e.2.1 + e.2.2.2.2.1) (e.2.2.1 + e.2.2.2.2.2)
def me_out (es : List ml_L) : Bool := es.any (fun e => !ml_ins e)
theorem me_out_iff {f g : Nat → Int32} {es : List ml_L} (h : ml_hold f g es) : (∃ j, j < es.length ∧ mp_out f g j = true) ↔ me_out es = true := by
  rw [me_out, List.any_eq_true]
  constructor
  · rintro ⟨j, hj, h9⟩
    obtain ⟨e, he⟩ := ml_lt hj
    obtain ⟨h1, h2, h3, h4, h5, h6⟩ := h j e he
    refine ⟨e, List.mem_of_getElem? he, ?_⟩
    rw [mp_out, h1, h2, h3, h4, h5, h6] at h9
    exact h9
  · rintro ⟨e, hm, h9⟩
    obtain ⟨j, he⟩ := List.getElem?_of_mem hm
    obtain ⟨h1, h2, h3, h4, h5, h6⟩ := h j e he
    refine ⟨j, (List.getElem?_eq_some_iff.mp he).1, ?_⟩
    rw [mp_out, h1, h2, h3, h4, h5, h6]
    exact h9
theorem me_out_no {es : List ml_L} (h : me_out es = false) : ∀ e ∈ es, ml_ins e = true := by
  intro e he
  rw [me_out, List.any_eq_false] at h
  have := h e he
  cases h2 : ml_ins e
  · rw [h2] at this; exact absurd rfl this
  · rfl
noncomputable def me_cell (k slot : Int32) (S T : Nat → Bool) (sh R X Y Z : Nat) (es : List ml_L) : Int32 :=
  if me_out es = true then 108
  else if ¬ slot = -1 ∧ (mx_d (ml_hit T sh R es) = true ∨ (k = 103 ∧ mx_d (ml_hit S sh R es) = true)) then 99
  else if k = 120 ∧ mx_d (mx_meet S sh R X Y Z) = true then 120 else 45
set_option maxHeartbeats 1000000 in
theorem sp32_1 {d : Nat} {K : am_K} {ha : Nat → Nat → Int32} {hz : Int32} {a1 : Nat → Nat → Int32} {s1 : Nat → Int32} {t1 : UInt32} {a2 : Nat → Nat → Int32} {s2 : Nat → Int32} {t2 : UInt32} {al : Int32} {ma : Nat → Nat → Int32} {ms : Nat → Int32} {mt : UInt32} {ol : Nat → Int64} {od : Nat → UInt64} {S : Nat → Bool} {sh R X Y Z : Nat} (hS : ∀ j, j < 72 → a1 0 j = mr_w (fun q => S (16 * j + q))) (hs1 : s1 21 = nI sh) (hs2 : s1 22 = nI R) (hsh : sh = 101 ∨ sh = 98 ∨ sh = 118) (hR : R < 4) (hX : a1 3 0 = nI X) (hY : a1 3 1 = nI Y) (hZ : a1 3 2 = nI Z) (hX9 : X < 16) (hY9 : Y < 12) (hZ9 : Z < 10) (k : ∀ v : Bool, (v = true ↔ mx_meet S sh R X Y Z) → K (some (.int (am_b v))) (am_W ha hz a1 (mc_mv s1 (nI X) (nI Y) (nI Z)) t1 a2 s2 t2 al ma ms mt ol od)) : am_Run (d + 3) 32 [.ref 15] (am_W ha hz a1 s1 t1 a2 s2 t2 al ma ms mt ol od) K := by
  refine ⟨rfl, fun P hm hP => ?_⟩
  show P 0 [some (.ref 15)] [] _ 0 0
  refine s_aload_n hP t32_0 rfl ?_
  refine s_getfield hP t32_1 rfl rfl ?_
  refine s_aload_n hP t32_4 rfl ?_
  refine s_getfield hP t32_5 rfl rfl ?_
  refine s_iconst (v := 0) hP t32_8 (by decide) ?_
  refine s_iaload hP t32_9 rfl (vp_in_nI (n := 0) (by decide) (by decide)) ?_
  rw [show (0 : Int32).toNatClampNeg = 0 from rfl, hX]
  refine s_aload_n hP t32_10 rfl ?_
  refine s_getfield hP t32_11 rfl rfl ?_
  refine s_iconst (v := 1) hP t32_14 (by decide) ?_
  refine s_iaload hP t32_15 rfl (vp_in_nI (n := 1) (by decide) (by decide)) ?_
  rw [show (1 : Int32).toNatClampNeg = 1 from rfl, hY]
  refine s_aload_n hP t32_16 rfl ?_
  refine s_getfield hP t32_17 rfl rfl ?_
  refine s_iconst (v := 2) hP t32_20 (by decide) ?_
  refine s_iaload hP t32_21 rfl (vp_in_nI (n := 2) (by decide) (by decide)) ?_
  rw [show (2 : Int32).toNatClampNeg = 2 from rfl, hZ]
  refine s_invokevirtual (bc' := 0) (bs' := 0) hP t32_22 rfl rfl rfl rfl rfl ?_
  refine sp63_1 ?_
  refine s_aload_n hP t32_25 rfl ?_
  refine s_getfield hP t32_26 rfl rfl ?_
  refine s_aload_n hP t32_29 rfl ?_
  refine s_getfield hP t32_30 rfl rfl ?_
  refine s_invokevirtual (bc' := 0) (bs' := 0) hP t32_33 rfl rfl rfl rfl rfl ?_
  refine sp8 (S := S) (s := sh) (R := R) (X := X) (Y := Y) (Z := Z) rfl rfl hS ?_ hsh hR hX9 hY9 hZ9 (fun v hv => ?_)
  · rw [← hs1, ← hs2]
    rfl
  refine s_ireturn hP t32_36 rfl (am_nar_b _) ?_
  exact k v hv
set_option maxHeartbeats 2000000 in
theorem sp37_1 {d : Nat} {K : am_K} {ha : Nat → Nat → Int32} {hz : Int32} {a1 : Nat → Nat → Int32} {s1 : Nat → Int32} {t1 : UInt32} {a2 : Nat → Nat → Int32} {s2 : Nat → Int32} {t2 : UInt32} {al : Int32} {ma : Nat → Nat → Int32} {ms : Nat → Int32} {mt : UInt32} {ol : Nat → Int64} {od : Nat → UInt64} {S : Nat → Bool} {sh R X Y Z : Nat} (hS : ∀ j, j < 72 → a1 0 j = mr_w (fun q => S (16 * j + q))) (hs1 : s1 21 = nI sh) (hs2 : s1 22 = nI R) (hsh : sh = 101 ∨ sh = 98 ∨ sh = 118) (hR : R < 4) (hX : a1 3 0 = nI X) (hY : a1 3 1 = nI Y) (hZ : a1 3 2 = nI Z) (hX9 : X < 16) (hY9 : Y < 12) (hZ9 : Z < 10) (k : ∀ x y z : Int32, K (some (.int (nI (me_lev (fun l => mx_d (mx_meet S sh R X Y l)) Z)))) (am_W ha hz a1 (mc_mv s1 x y z) t1 a2 s2 t2 al ma ms mt ol od)) : am_Run (d + 3) 37 [.ref 15] (am_W ha hz a1 s1 t1 a2 s2 t2 al ma ms mt ol od) K := by
  refine ⟨rfl, fun P hm hP => ?_⟩
  show P 0 [some (.ref 15), none] [] _ 0 0
  have loop : ∀ (l : Nat) (x y z : Int32), l ≤ Z → me_lev (fun l => mx_d (mx_meet S sh R X Y l)) l = me_lev (fun l => mx_d (mx_meet S sh R X Y l)) Z → P 7 [some (.ref 15), some (.int (nI l))] [] (am_W ha hz a1 (mc_mv s1 x y z) t1 a2 s2 t2 al ma ms mt ol od) 0 0 := by
    intro l
    induction l with
    | zero =>
      intro x y z _ he
      refine s_iload_n hP t37_7 rfl ?_
      refine s_if_le hP t37_8 (fun q8 => ?_) (fun q8 => absurd (by decide +kernel) q8)
      refine s_iconst (v := 0) hP t37_55 (by decide) ?_
      refine s_ireturn hP t37_56 rfl rfl ?_
      rw [← he] at k
      exact k x y z
    | succ l ih =>
      intro x y z hl he
      refine s_iload_n hP t37_7 rfl ?_
      refine s_if_le hP t37_8 (fun q8 => ?_) (fun q8 => ?_)
      · exact absurd (nI_lt (a := 0) (b := l + 1) (by omega) (by omega)) (Int32.not_lt.mpr q8)
      · refine s_aload_n hP t37_11 rfl ?_
        refine s_getfield hP t37_12 rfl rfl ?_
        refine s_aload_n hP t37_15 rfl ?_
        refine s_getfield hP t37_16 rfl rfl ?_
        refine s_iconst (v := 0) hP t37_19 (by decide) ?_
        refine s_iaload hP t37_20 rfl (vp_in_nI (n := 0) (by decide) (by decide)) ?_
        rw [show (0 : Int32).toNatClampNeg = 0 from rfl, hX]
        refine s_aload_n hP t37_21 rfl ?_
        refine s_getfield hP t37_22 rfl rfl ?_
        refine s_iconst (v := 1) hP t37_25 (by decide) ?_
        refine s_iaload hP t37_26 rfl (vp_in_nI (n := 1) (by decide) (by decide)) ?_
        rw [show (1 : Int32).toNatClampNeg = 1 from rfl, hY]
        refine s_iload_n hP t37_27 rfl ?_
        refine s_iconst (v := 1) hP t37_28 (by decide) ?_
        refine s_isub hP t37_29 ?_
        rw [nI_pred]
        refine s_invokevirtual (bc' := 0) (bs' := 0) hP t37_30 rfl rfl rfl rfl rfl ?_
        refine sp63_1 ?_
        rw [show am_u1 (am_u1 (am_u1 (mc_mv s1 x y z) 23 (nI X)) 24 (nI Y)) 25 (nI l) = mc_mv (mc_mv s1 x y z) (nI X) (nI Y) (nI l) from rfl, mc_mv_mv]
        refine s_aload_n hP t37_33 rfl ?_
        refine s_getfield hP t37_34 rfl rfl ?_
        refine s_aload_n hP t37_37 rfl ?_
        refine s_getfield hP t37_38 rfl rfl ?_
        refine s_invokevirtual (bc' := 0) (bs' := 0) hP t37_41 rfl rfl rfl rfl rfl ?_
        refine sp8 (S := S) (s := sh) (R := R) (X := X) (Y := Y) (Z := l) rfl rfl hS ?_ hsh hR hX9 hY9 (by omega) (fun v hv => ?_)
        · rw [← hs1, ← hs2]
          rfl
        have hv9 : v = mx_d (mx_meet S sh R X Y l) := mx_d_eq hv
        refine s_zeq hP t37_44 (fun q44 => ?_) (fun q44 => ?_)
        · refine s_iinc_1 (v := (-1)) hP t37_49 (by decide) (by exact rfl) ?_
          refine s_goto hP t37_52 ?_
          rw [mi_m1, nI_pred]
          exact ih _ _ _ (by omega) (by rw [← he, me_lev, if_neg (by show ¬ mx_d (mx_meet S sh R X Y l) = true; rw [← hv9, q44]; decide)])
        · refine s_iload_n hP t37_47 rfl ?_
          refine s_ireturn hP t37_48 rfl rfl ?_
          rw [← he, me_lev, if_pos (show mx_d (mx_meet S sh R X Y l) = true by rw [← hv9, q44])] at k
          exact k _ _ _
  refine s_aload_n hP t37_0 rfl ?_
  refine s_getfield hP t37_1 rfl rfl ?_
  refine s_iconst (v := 2) hP t37_4 (by decide) ?_
  refine s_iaload hP t37_5 rfl (vp_in_nI (n := 2) (by decide) (by decide)) ?_
  rw [show (2 : Int32).toNatClampNeg = 2 from rfl, hZ]
  refine s_istore_n_1 hP t37_6 (by exact rfl) ?_
  have l9 := loop Z (s1 23) (s1 24) (s1 25) (Nat.le_refl _) rfl
  rw [mc_mv_self] at l9
  exact l9
set_option maxHeartbeats 2000000 in
theorem sp20_1 {d : Nat} {K : am_K} {ha : Nat → Nat → Int32} {hz : Int32} {a1 : Nat → Nat → Int32} {s1 : Nat → Int32} {t1 : UInt32} {a2 : Nat → Nat → Int32} {s2 : Nat → Int32} {t2 : UInt32} {al : Int32} {ma : Nat → Nat → Int32} {ms : Nat → Int32} {mt : UInt32} {ol : Nat → Int64} {od : Nat → UInt64} {es : List ml_L} (hH : ml_hold (a1 5) (a1 6) es) (hL : s1 20 = nI es.length) (hL9 : es.length ≤ 102) {S T : Nat → Bool} {sh R X Y Z : Nat} (hS : ∀ j, j < 72 → a1 0 j = mr_w (fun q => S (16 * j + q))) (hT : ∀ j, j < 72 → ha 3 j = mr_w (fun q => T (16 * j + q))) (hs : ¬ s1 10 = -1 → s1 21 = nI sh ∧ s1 22 = nI R) (hsh : sh = 101 ∨ sh = 98 ∨ sh = 118) (hR : R < 4) (hX : a1 3 0 = nI X) (hY : a1 3 1 = nI Y) (hZ : a1 3 2 = nI Z) (hX9 : X < 16) (hY9 : Y < 12) (hZ9 : Z < 10) (hx : s1 16 = 120 → ¬ s1 10 = -1) (hin : (∀ e ∈ es, ml_ins e = true) → ∀ e ∈ es, ml_inn e) (k : ∀ x y z : Int32, K (some (.int (me_cell (s1 16) (s1 10) S T sh R X Y Z es))) (am_W ha hz a1 (mc_mv s1 x y z) t1 a2 s2 t2 al ma ms mt ol od)) : am_Run (d + 5) 20 [.ref 15] (am_W ha hz a1 s1 t1 a2 s2 t2 al ma ms mt ol od) K := by
  refine ⟨rfl, fun P hm hP => ?_⟩
  show P 0 [some (.ref 15)] [] _ 0 0
  by_cases hsl0 : s1 10 = -1
  case pos =>
    refine s_aload_n hP t20_0 rfl ?_
    refine s_getfield hP t20_1 rfl rfl ?_
    refine s_invokevirtual (bc' := 0) (bs' := 0) hP t20_4 rfl rfl rfl rfl rfl ?_
    have h48 : am_nth (am_W ha hz a1 s1 t1 a2 s2 t2 al ma ms mt ol od) 22 = some (.inr (3, [.ref 23, .ref 24, .ref 25, .int (nI es.length)])) := by
      rw [← hL]
      rfl
    refine sp48 h48 rfl rfl hL9 (fun v hv => ?_)
    have hv9 : v = me_out es := by rw [Bool.eq_iff_iff, hv, me_out_iff hH]
    refine s_zeq hP t20_7 (fun q7 => ?_) (fun q7 => ?_)
    · refine s_aload_n hP t20_13 rfl ?_
      refine s_aload_n hP t20_14 rfl ?_
      refine s_getfield hP t20_15 rfl rfl ?_
      refine s_getfield hP t20_18 rfl rfl ?_
      refine s_invokevirtual (bc' := 0) (bs' := 0) hP t20_21 rfl rfl rfl rfl rfl ?_
      refine sp29_1f0 hsl0 ?_
      refine s_if_ne hP t20_24 (fun q24 => ?_) (fun q24 => ?_)
      · exact absurd rfl q24
      · refine s_aload_n hP t20_27 rfl ?_
        refine s_getfield hP t20_28 rfl rfl ?_
        refine s_bipush (v := 103) hP t20_31 (by decide) ?_
        refine s_icmp_ne hP t20_33 (fun q33 => ?_) (fun q33 => ?_)
        · refine s_aload_n hP t20_50 rfl ?_
          refine s_getfield hP t20_51 rfl rfl ?_
          refine s_bipush (v := 120) hP t20_54 (by decide) ?_
          refine s_icmp_ne hP t20_56 (fun q56 => ?_) (fun q56 => ?_)
          · refine s_bipush (v := 45) hP t20_71 (by decide) ?_
            refine s_ireturn hP t20_73 rfl rfl ?_
            have e9 : me_cell (s1 16) (s1 10) S T sh R X Y Z es = 45 := by rw [me_cell, if_neg (by rw [← hv9, q7]; decide), if_neg (fun q => q.1 hsl0), if_neg (fun q => hx q.1 hsl0)]
            rw [e9] at k
            have k9 := k (s1 23) (s1 24) (s1 25)
            rw [mc_mv_self] at k9
            exact k9
          · exact absurd hsl0 (hx q56)
        · refine s_aload_n hP t20_36 rfl ?_
          refine s_aload_n hP t20_37 rfl ?_
          refine s_getfield hP t20_38 rfl rfl ?_
          refine s_invokevirtual (bc' := 0) (bs' := 0) hP t20_41 rfl rfl rfl rfl rfl ?_
          refine sp29_1s0 hsl0 ?_
          refine s_if_eq hP t20_44 (fun q44 => ?_) (fun q44 => ?_)
          · refine s_aload_n hP t20_50 rfl ?_
            refine s_getfield hP t20_51 rfl rfl ?_
            refine s_bipush (v := 120) hP t20_54 (by decide) ?_
            refine s_icmp_ne hP t20_56 (fun q56 => ?_) (fun q56 => ?_)
            · refine s_bipush (v := 45) hP t20_71 (by decide) ?_
              refine s_ireturn hP t20_73 rfl rfl ?_
              have e9 : me_cell (s1 16) (s1 10) S T sh R X Y Z es = 45 := by rw [me_cell, if_neg (by rw [← hv9, q7]; decide), if_neg (fun q => q.1 hsl0), if_neg (fun q => hx q.1 hsl0)]
              rw [e9] at k
              have k9 := k (s1 23) (s1 24) (s1 25)
              rw [mc_mv_self] at k9
              exact k9
            · exact absurd hsl0 (hx q56)
          · exact absurd rfl q44
    · refine s_bipush (v := 108) hP t20_10 (by decide) ?_
      refine s_ireturn hP t20_12 rfl rfl ?_
      have e9 : me_cell (s1 16) (s1 10) S T sh R X Y Z es = 108 := by rw [me_cell, if_pos (by rw [← hv9]; exact q7)]
      rw [e9] at k
      have k9 := k (s1 23) (s1 24) (s1 25)
      rw [mc_mv_self] at k9
      exact k9
  case neg =>
    refine s_aload_n hP t20_0 rfl ?_
    refine s_getfield hP t20_1 rfl rfl ?_
    refine s_invokevirtual (bc' := 0) (bs' := 0) hP t20_4 rfl rfl rfl rfl rfl ?_
    have h48 : am_nth (am_W ha hz a1 s1 t1 a2 s2 t2 al ma ms mt ol od) 22 = some (.inr (3, [.ref 23, .ref 24, .ref 25, .int (nI es.length)])) := by
      rw [← hL]
      rfl
    refine sp48 h48 rfl rfl hL9 (fun v hv => ?_)
    have hv9 : v = me_out es := by rw [Bool.eq_iff_iff, hv, me_out_iff hH]
    refine s_zeq hP t20_7 (fun q7 => ?_) (fun q7 => ?_)
    · refine s_aload_n hP t20_13 rfl ?_
      refine s_aload_n hP t20_14 rfl ?_
      refine s_getfield hP t20_15 rfl rfl ?_
      refine s_getfield hP t20_18 rfl rfl ?_
      refine s_invokevirtual (bc' := 0) (bs' := 0) hP t20_21 rfl rfl rfl rfl rfl ?_
      have hin9 := hin (me_out_no (by rw [← hv9]; exact q7))
      obtain ⟨hs1, hs2⟩ := hs hsl0
      refine sp29_1f (es := es) (S := T) (sh := sh) (R := R) hH hL hL9 hT hsl0 hs1 hs2 hsh hR hin9 (fun w x9 y9 z9 hw => ?_)
      have w9 := mx_d_eq hw
      refine s_zne hP t20_24 (fun q24 => ?_) (fun q24 => ?_)
      · refine s_bipush (v := 99) hP t20_47 (by decide) ?_
        refine s_ireturn hP t20_49 rfl rfl ?_
        have e9 : me_cell (s1 16) (s1 10) S T sh R X Y Z es = 99 := by rw [me_cell, if_neg (by rw [← hv9, q7]; decide), if_pos ⟨hsl0, Or.inl (by rw [← w9]; exact q24)⟩]
        rw [e9] at k
        exact k _ _ _
      · refine s_aload_n hP t20_27 rfl ?_
        refine s_getfield hP t20_28 rfl rfl ?_
        refine s_bipush (v := 103) hP t20_31 (by decide) ?_
        refine s_icmp_ne hP t20_33 (fun q33 => ?_) (fun q33 => ?_)
        · refine s_aload_n hP t20_50 rfl ?_
          refine s_getfield hP t20_51 rfl rfl ?_
          refine s_bipush (v := 120) hP t20_54 (by decide) ?_
          refine s_icmp_ne hP t20_56 (fun q56 => ?_) (fun q56 => ?_)
          · refine s_bipush (v := 45) hP t20_71 (by decide) ?_
            refine s_ireturn hP t20_73 rfl rfl ?_
            have e9 : me_cell (s1 16) (s1 10) S T sh R X Y Z es = 45 := by rw [me_cell, if_neg (by rw [← hv9, q7]; decide), if_neg (fun q => q.2.elim (fun r => by rw [← w9, q24] at r; cases r) (fun r => q33 r.1)), if_neg (fun q => q56 q.1)]
            rw [e9] at k
            exact k _ _ _
          · refine s_aload_n hP t20_59 rfl ?_
            refine s_invokevirtual (bc' := 0) (bs' := 0) hP t20_60 rfl rfl rfl rfl rfl ?_
            refine sp32_1 (s1 := mc_mv s1 x9 y9 z9) (S := S) (sh := sh) (R := R) hS hs1 hs2 hsh hR hX hY hZ hX9 hY9 hZ9 (fun p hp => ?_)
            have p9 := mx_d_eq hp
            rw [mc_mv_mv]
            refine s_zeq hP t20_63 (fun q63 => ?_) (fun q63 => ?_)
            · refine s_bipush (v := 45) hP t20_71 (by decide) ?_
              refine s_ireturn hP t20_73 rfl rfl ?_
              have e9 : me_cell (s1 16) (s1 10) S T sh R X Y Z es = 45 := by rw [me_cell, if_neg (by rw [← hv9, q7]; decide), if_neg (fun q => q.2.elim (fun r => by rw [← w9, q24] at r; cases r) (fun r => q33 r.1)), if_neg (fun q => by rw [← p9, q63] at q; cases q.2)]
              rw [e9] at k
              exact k _ _ _
            · refine s_bipush (v := 120) hP t20_66 (by decide) ?_
              refine s_goto hP t20_68 ?_
              refine s_ireturn hP t20_73 rfl rfl ?_
              have e9 : me_cell (s1 16) (s1 10) S T sh R X Y Z es = 120 := by rw [me_cell, if_neg (by rw [← hv9, q7]; decide), if_neg (fun q => q.2.elim (fun r => by rw [← w9, q24] at r; cases r) (fun r => q33 r.1)), if_pos ⟨q56, by rw [← p9]; exact q63⟩]
              rw [e9] at k
              exact k _ _ _
        · refine s_aload_n hP t20_36 rfl ?_
          refine s_aload_n hP t20_37 rfl ?_
          refine s_getfield hP t20_38 rfl rfl ?_
          refine s_invokevirtual (bc' := 0) (bs' := 0) hP t20_41 rfl rfl rfl rfl rfl ?_
          refine sp29_1s (s1 := mc_mv s1 x9 y9 z9) (es := es) (S := S) (sh := sh) (R := R) hH hL hL9 hS hsl0 hs1 hs2 hsh hR hin9 (fun u x9 y9 z9 hu => ?_)
          have u9 := mx_d_eq hu
          rw [mc_mv_mv]
          refine s_zeq hP t20_44 (fun q44 => ?_) (fun q44 => ?_)
          · refine s_aload_n hP t20_50 rfl ?_
            refine s_getfield hP t20_51 rfl rfl ?_
            refine s_bipush (v := 120) hP t20_54 (by decide) ?_
            refine s_icmp_ne hP t20_56 (fun q56 => ?_) (fun q56 => ?_)
            · refine s_bipush (v := 45) hP t20_71 (by decide) ?_
              refine s_ireturn hP t20_73 rfl rfl ?_
              have e9 : me_cell (s1 16) (s1 10) S T sh R X Y Z es = 45 := by rw [me_cell, if_neg (by rw [← hv9, q7]; decide), if_neg (fun q => q.2.elim (fun r => by rw [← w9, q24] at r; cases r) (fun r => by rw [← u9, q44] at r; cases r.2)), if_neg (fun q => q56 q.1)]
              rw [e9] at k
              exact k _ _ _
            · refine s_aload_n hP t20_59 rfl ?_
              refine s_invokevirtual (bc' := 0) (bs' := 0) hP t20_60 rfl rfl rfl rfl rfl ?_
              refine sp32_1 (s1 := mc_mv s1 x9 y9 z9) (S := S) (sh := sh) (R := R) hS hs1 hs2 hsh hR hX hY hZ hX9 hY9 hZ9 (fun p hp => ?_)
              have p9 := mx_d_eq hp
              rw [mc_mv_mv]
              refine s_zeq hP t20_63 (fun q63 => ?_) (fun q63 => ?_)
              · refine s_bipush (v := 45) hP t20_71 (by decide) ?_
                refine s_ireturn hP t20_73 rfl rfl ?_
                have e9 : me_cell (s1 16) (s1 10) S T sh R X Y Z es = 45 := by rw [me_cell, if_neg (by rw [← hv9, q7]; decide), if_neg (fun q => q.2.elim (fun r => by rw [← w9, q24] at r; cases r) (fun r => by rw [← u9, q44] at r; cases r.2)), if_neg (fun q => by rw [← p9, q63] at q; cases q.2)]
                rw [e9] at k
                exact k _ _ _
              · refine s_bipush (v := 120) hP t20_66 (by decide) ?_
                refine s_goto hP t20_68 ?_
                refine s_ireturn hP t20_73 rfl rfl ?_
                have e9 : me_cell (s1 16) (s1 10) S T sh R X Y Z es = 120 := by rw [me_cell, if_neg (by rw [← hv9, q7]; decide), if_neg (fun q => q.2.elim (fun r => by rw [← w9, q24] at r; cases r) (fun r => by rw [← u9, q44] at r; cases r.2)), if_pos ⟨q56, by rw [← p9]; exact q63⟩]
                rw [e9] at k
                exact k _ _ _
          · refine s_bipush (v := 99) hP t20_47 (by decide) ?_
            refine s_ireturn hP t20_49 rfl rfl ?_
            have e9 : me_cell (s1 16) (s1 10) S T sh R X Y Z es = 99 := by rw [me_cell, if_neg (by rw [← hv9, q7]; decide), if_pos ⟨hsl0, Or.inr ⟨q33, by rw [← u9]; exact q44⟩⟩]
            rw [e9] at k
            exact k _ _ _
    · refine s_bipush (v := 108) hP t20_10 (by decide) ?_
      refine s_ireturn hP t20_12 rfl rfl ?_
      have e9 : me_cell (s1 16) (s1 10) S T sh R X Y Z es = 108 := by rw [me_cell, if_pos (by rw [← hv9]; exact q7)]
      rw [e9] at k
      have k9 := k (s1 23) (s1 24) (s1 25)
      rw [mc_mv_self] at k9
      exact k9
set_option maxHeartbeats 2000000 in
theorem sp19_1 {d : Nat} {K : am_K} {ha : Nat → Nat → Int32} {hz : Int32} {a1 : Nat → Nat → Int32} {s1 : Nat → Int32} {t1 : UInt32} {a2 : Nat → Nat → Int32} {s2 : Nat → Int32} {t2 : UInt32} {al : Int32} {ma : Nat → Nat → Int32} {ms : Nat → Int32} {mt : UInt32} {ol : Nat → Int64} {od : Nat → UInt64} (h116 : s1 16 = 116 → ∃ A B, s1 17 = nI A ∧ s1 18 = nI B ∧ A < 3 ∧ B < 4) (k : K (some (.int (mc_tool ha (a1 1) (s1 16) (s1 17) (s1 18) (s1 10) (s1 15)))) (am_W ha hz a1 s1 t1 a2 s2 t2 al ma ms mt ol od)) : am_Run (d + 4) 19 [.ref 15] (am_W ha hz a1 s1 t1 a2 s2 t2 al ma ms mt ol od) K := by
  refine ⟨rfl, fun P hm hP => ?_⟩
  show P 0 [some (.ref 15), none] [] _ 0 0
  refine s_aload_n hP t19_0 rfl ?_
  refine s_getfield hP t19_1 rfl rfl ?_
  refine s_bipush (v := 116) hP t19_4 (by decide) ?_
  refine s_icmp_ne hP t19_6 (fun q6 => ?_) (fun q6 => ?_)
  · refine s_aload_n hP t19_35 rfl ?_
    refine s_invokevirtual (bc' := 0) (bs' := 0) hP t19_36 rfl rfl rfl rfl rfl ?_
    refine sp21_1 ?_
    refine s_zeq hP t19_39 (fun q39 => ?_) (fun q39 => ?_)
    · refine s_aload_n hP t19_64 rfl ?_
      refine s_invokevirtual (bc' := 0) (bs' := 0) hP t19_65 rfl rfl rfl rfl rfl ?_
      refine sp21_1 ?_
      refine s_zne hP t19_68 (fun q68 => ?_) (fun q68 => ?_)
      · refine s_aload_n hP t19_80 rfl ?_
        refine s_getfield hP t19_81 rfl rfl ?_
        refine s_iconst (v := (-1)) hP t19_84 (by decide) ?_
        refine s_icmp_ne hP t19_85 (fun q85 => ?_) (fun q85 => ?_)
        · refine s_iconst (v := 0) hP t19_92 (by decide) ?_
          refine s_istore_n_1 hP t19_93 (by exact rfl) ?_
          refine s_iload_n hP t19_94 rfl ?_
          refine s_if_ne hP t19_95 (fun q95 => ?_) (fun q95 => ?_)
          · exact absurd rfl q95
          · refine s_aload_n hP t19_98 rfl ?_
            refine s_invokevirtual (bc' := 0) (bs' := 0) hP t19_99 rfl rfl rfl rfl rfl ?_
            refine sp21_1 ?_
            refine s_zeq hP t19_102 (fun q102 => ?_) (fun q102 => ?_)
            · refine s_bipush (v := 45) hP t19_117 (by decide) ?_
              refine s_ireturn hP t19_119 rfl rfl ?_
              have e9 : mc_tool ha (a1 1) (s1 16) (s1 17) (s1 18) (s1 10) (s1 15) = 45 := by rw [mc_tool, if_neg q6, if_neg (fun q => by rw [q39] at q; cases q.1), if_neg (fun q => q.elim (fun q => q85 q.2) (fun q => by rw [q102] at q; cases q.1))]
              rw [e9] at k
              exact k
            · refine s_aload_n hP t19_105 rfl ?_
              refine s_getfield hP t19_106 rfl rfl ?_
              refine s_if_ne hP t19_109 (fun q109 => ?_) (fun q109 => ?_)
              · refine s_bipush (v := 45) hP t19_117 (by decide) ?_
                refine s_ireturn hP t19_119 rfl rfl ?_
                have e9 : mc_tool ha (a1 1) (s1 16) (s1 17) (s1 18) (s1 10) (s1 15) = 45 := by rw [mc_tool, if_neg q6, if_neg (fun q => by rw [q39] at q; cases q.1), if_neg (fun q => q.elim (fun q => q85 q.2) (fun q => q109 q.2))]
                rw [e9] at k
                exact k
              · refine s_bipush (v := 115) hP t19_112 (by decide) ?_
                refine s_goto hP t19_114 ?_
                refine s_ireturn hP t19_119 rfl rfl ?_
                have e9 : mc_tool ha (a1 1) (s1 16) (s1 17) (s1 18) (s1 10) (s1 15) = 115 := by rw [mc_tool, if_neg q6, if_neg (fun q => by rw [q39] at q; cases q.1), if_pos (Or.inr ⟨q102, q109⟩)]
                rw [e9] at k
                exact k
        · refine s_iconst (v := 1) hP t19_88 (by decide) ?_
          refine s_goto hP t19_89 ?_
          refine s_istore_n_1 hP t19_93 (by exact rfl) ?_
          refine s_iload_n hP t19_94 rfl ?_
          refine s_if_ne hP t19_95 (fun q95 => ?_) (fun q95 => ?_)
          · refine s_bipush (v := 115) hP t19_112 (by decide) ?_
            refine s_goto hP t19_114 ?_
            refine s_ireturn hP t19_119 rfl rfl ?_
            have e9 : mc_tool ha (a1 1) (s1 16) (s1 17) (s1 18) (s1 10) (s1 15) = 115 := by rw [mc_tool, if_neg q6, if_neg (fun q => by rw [q39] at q; cases q.1), if_pos (Or.inl ⟨Or.inl (q68), q85⟩)]
            rw [e9] at k
            exact k
          · exact absurd rfl (show ¬ (1 : Int32) = 1 from fun _ => absurd q95 (by decide))
      · refine s_aload_n hP t19_71 rfl ?_
        refine s_getfield hP t19_72 rfl rfl ?_
        refine s_bipush (v := 120) hP t19_75 (by decide) ?_
        refine s_icmp_ne hP t19_77 (fun q77 => ?_) (fun q77 => ?_)
        · refine s_iconst (v := 0) hP t19_92 (by decide) ?_
          refine s_istore_n_1 hP t19_93 (by exact rfl) ?_
          refine s_iload_n hP t19_94 rfl ?_
          refine s_if_ne hP t19_95 (fun q95 => ?_) (fun q95 => ?_)
          · exact absurd rfl q95
          · refine s_aload_n hP t19_98 rfl ?_
            refine s_invokevirtual (bc' := 0) (bs' := 0) hP t19_99 rfl rfl rfl rfl rfl ?_
            refine sp21_1 ?_
            refine s_zeq hP t19_102 (fun q102 => ?_) (fun q102 => ?_)
            · refine s_bipush (v := 45) hP t19_117 (by decide) ?_
              refine s_ireturn hP t19_119 rfl rfl ?_
              have e9 : mc_tool ha (a1 1) (s1 16) (s1 17) (s1 18) (s1 10) (s1 15) = 45 := by rw [mc_tool, if_neg q6, if_neg (fun q => by rw [q39] at q; cases q.1), if_neg (fun q => q.elim (fun q => q.1.elim (fun r => by rw [q68] at r; cases r) (fun r => q77 r)) (fun q => by rw [q102] at q; cases q.1))]
              rw [e9] at k
              exact k
            · refine s_aload_n hP t19_105 rfl ?_
              refine s_getfield hP t19_106 rfl rfl ?_
              refine s_if_ne hP t19_109 (fun q109 => ?_) (fun q109 => ?_)
              · refine s_bipush (v := 45) hP t19_117 (by decide) ?_
                refine s_ireturn hP t19_119 rfl rfl ?_
                have e9 : mc_tool ha (a1 1) (s1 16) (s1 17) (s1 18) (s1 10) (s1 15) = 45 := by rw [mc_tool, if_neg q6, if_neg (fun q => by rw [q39] at q; cases q.1), if_neg (fun q => q.elim (fun q => q.1.elim (fun r => by rw [q68] at r; cases r) (fun r => q77 r)) (fun q => q109 q.2))]
                rw [e9] at k
                exact k
              · refine s_bipush (v := 115) hP t19_112 (by decide) ?_
                refine s_goto hP t19_114 ?_
                refine s_ireturn hP t19_119 rfl rfl ?_
                have e9 : mc_tool ha (a1 1) (s1 16) (s1 17) (s1 18) (s1 10) (s1 15) = 115 := by rw [mc_tool, if_neg q6, if_neg (fun q => by rw [q39] at q; cases q.1), if_pos (Or.inr ⟨q102, q109⟩)]
                rw [e9] at k
                exact k
        · refine s_aload_n hP t19_80 rfl ?_
          refine s_getfield hP t19_81 rfl rfl ?_
          refine s_iconst (v := (-1)) hP t19_84 (by decide) ?_
          refine s_icmp_ne hP t19_85 (fun q85 => ?_) (fun q85 => ?_)
          · refine s_iconst (v := 0) hP t19_92 (by decide) ?_
            refine s_istore_n_1 hP t19_93 (by exact rfl) ?_
            refine s_iload_n hP t19_94 rfl ?_
            refine s_if_ne hP t19_95 (fun q95 => ?_) (fun q95 => ?_)
            · exact absurd rfl q95
            · refine s_aload_n hP t19_98 rfl ?_
              refine s_invokevirtual (bc' := 0) (bs' := 0) hP t19_99 rfl rfl rfl rfl rfl ?_
              refine sp21_1 ?_
              refine s_zeq hP t19_102 (fun q102 => ?_) (fun q102 => ?_)
              · refine s_bipush (v := 45) hP t19_117 (by decide) ?_
                refine s_ireturn hP t19_119 rfl rfl ?_
                have e9 : mc_tool ha (a1 1) (s1 16) (s1 17) (s1 18) (s1 10) (s1 15) = 45 := by rw [mc_tool, if_neg q6, if_neg (fun q => by rw [q39] at q; cases q.1), if_neg (fun q => q.elim (fun q => q85 q.2) (fun q => by rw [q102] at q; cases q.1))]
                rw [e9] at k
                exact k
              · refine s_aload_n hP t19_105 rfl ?_
                refine s_getfield hP t19_106 rfl rfl ?_
                refine s_if_ne hP t19_109 (fun q109 => ?_) (fun q109 => ?_)
                · refine s_bipush (v := 45) hP t19_117 (by decide) ?_
                  refine s_ireturn hP t19_119 rfl rfl ?_
                  have e9 : mc_tool ha (a1 1) (s1 16) (s1 17) (s1 18) (s1 10) (s1 15) = 45 := by rw [mc_tool, if_neg q6, if_neg (fun q => by rw [q39] at q; cases q.1), if_neg (fun q => q.elim (fun q => q85 q.2) (fun q => q109 q.2))]
                  rw [e9] at k
                  exact k
                · refine s_bipush (v := 115) hP t19_112 (by decide) ?_
                  refine s_goto hP t19_114 ?_
                  refine s_ireturn hP t19_119 rfl rfl ?_
                  have e9 : mc_tool ha (a1 1) (s1 16) (s1 17) (s1 18) (s1 10) (s1 15) = 115 := by rw [mc_tool, if_neg q6, if_neg (fun q => by rw [q39] at q; cases q.1), if_pos (Or.inr ⟨q102, q109⟩)]
                  rw [e9] at k
                  exact k
          · refine s_iconst (v := 1) hP t19_88 (by decide) ?_
            refine s_goto hP t19_89 ?_
            refine s_istore_n_1 hP t19_93 (by exact rfl) ?_
            refine s_iload_n hP t19_94 rfl ?_
            refine s_if_ne hP t19_95 (fun q95 => ?_) (fun q95 => ?_)
            · refine s_bipush (v := 115) hP t19_112 (by decide) ?_
              refine s_goto hP t19_114 ?_
              refine s_ireturn hP t19_119 rfl rfl ?_
              have e9 : mc_tool ha (a1 1) (s1 16) (s1 17) (s1 18) (s1 10) (s1 15) = 115 := by rw [mc_tool, if_neg q6, if_neg (fun q => by rw [q39] at q; cases q.1), if_pos (Or.inl ⟨Or.inr q77, q85⟩)]
              rw [e9] at k
              exact k
            · exact absurd rfl (show ¬ (1 : Int32) = 1 from fun _ => absurd q95 (by decide))
    · refine s_aload_n hP t19_42 rfl ?_
      refine s_getfield hP t19_43 rfl rfl ?_
      refine s_iconst (v := (-1)) hP t19_46 (by decide) ?_
      refine s_icmp_eq hP t19_47 (fun q47 => ?_) (fun q47 => ?_)
      · refine s_aload_n hP t19_64 rfl ?_
        refine s_invokevirtual (bc' := 0) (bs' := 0) hP t19_65 rfl rfl rfl rfl rfl ?_
        refine sp21_1 ?_
        refine s_zne hP t19_68 (fun q68 => ?_) (fun q68 => ?_)
        · refine s_aload_n hP t19_80 rfl ?_
          refine s_getfield hP t19_81 rfl rfl ?_
          refine s_iconst (v := (-1)) hP t19_84 (by decide) ?_
          refine s_icmp_ne hP t19_85 (fun q85 => ?_) (fun q85 => ?_)
          · refine s_iconst (v := 0) hP t19_92 (by decide) ?_
            refine s_istore_n_1 hP t19_93 (by exact rfl) ?_
            refine s_iload_n hP t19_94 rfl ?_
            refine s_if_ne hP t19_95 (fun q95 => ?_) (fun q95 => ?_)
            · exact absurd rfl q95
            · refine s_aload_n hP t19_98 rfl ?_
              refine s_invokevirtual (bc' := 0) (bs' := 0) hP t19_99 rfl rfl rfl rfl rfl ?_
              refine sp21_1 ?_
              refine s_zeq hP t19_102 (fun q102 => ?_) (fun q102 => ?_)
              · refine s_bipush (v := 45) hP t19_117 (by decide) ?_
                refine s_ireturn hP t19_119 rfl rfl ?_
                have e9 : mc_tool ha (a1 1) (s1 16) (s1 17) (s1 18) (s1 10) (s1 15) = 45 := by rw [mc_tool, if_neg q6, if_neg (fun q => q.2.1 q47), if_neg (fun q => q.elim (fun q => q85 q.2) (fun q => by rw [q102] at q; cases q.1))]
                rw [e9] at k
                exact k
              · refine s_aload_n hP t19_105 rfl ?_
                refine s_getfield hP t19_106 rfl rfl ?_
                refine s_if_ne hP t19_109 (fun q109 => ?_) (fun q109 => ?_)
                · refine s_bipush (v := 45) hP t19_117 (by decide) ?_
                  refine s_ireturn hP t19_119 rfl rfl ?_
                  have e9 : mc_tool ha (a1 1) (s1 16) (s1 17) (s1 18) (s1 10) (s1 15) = 45 := by rw [mc_tool, if_neg q6, if_neg (fun q => q.2.1 q47), if_neg (fun q => q.elim (fun q => q85 q.2) (fun q => q109 q.2))]
                  rw [e9] at k
                  exact k
                · refine s_bipush (v := 115) hP t19_112 (by decide) ?_
                  refine s_goto hP t19_114 ?_
                  refine s_ireturn hP t19_119 rfl rfl ?_
                  have e9 : mc_tool ha (a1 1) (s1 16) (s1 17) (s1 18) (s1 10) (s1 15) = 115 := by rw [mc_tool, if_neg q6, if_neg (fun q => q.2.1 q47), if_pos (Or.inr ⟨q102, q109⟩)]
                  rw [e9] at k
                  exact k
          · refine s_iconst (v := 1) hP t19_88 (by decide) ?_
            refine s_goto hP t19_89 ?_
            refine s_istore_n_1 hP t19_93 (by exact rfl) ?_
            refine s_iload_n hP t19_94 rfl ?_
            refine s_if_ne hP t19_95 (fun q95 => ?_) (fun q95 => ?_)
            · refine s_bipush (v := 115) hP t19_112 (by decide) ?_
              refine s_goto hP t19_114 ?_
              refine s_ireturn hP t19_119 rfl rfl ?_
              have e9 : mc_tool ha (a1 1) (s1 16) (s1 17) (s1 18) (s1 10) (s1 15) = 115 := by rw [mc_tool, if_neg q6, if_neg (fun q => q.2.1 q47), if_pos (Or.inl ⟨Or.inl (q68), q85⟩)]
              rw [e9] at k
              exact k
            · exact absurd rfl (show ¬ (1 : Int32) = 1 from fun _ => absurd q95 (by decide))
        · refine s_aload_n hP t19_71 rfl ?_
          refine s_getfield hP t19_72 rfl rfl ?_
          refine s_bipush (v := 120) hP t19_75 (by decide) ?_
          refine s_icmp_ne hP t19_77 (fun q77 => ?_) (fun q77 => ?_)
          · refine s_iconst (v := 0) hP t19_92 (by decide) ?_
            refine s_istore_n_1 hP t19_93 (by exact rfl) ?_
            refine s_iload_n hP t19_94 rfl ?_
            refine s_if_ne hP t19_95 (fun q95 => ?_) (fun q95 => ?_)
            · exact absurd rfl q95
            · refine s_aload_n hP t19_98 rfl ?_
              refine s_invokevirtual (bc' := 0) (bs' := 0) hP t19_99 rfl rfl rfl rfl rfl ?_
              refine sp21_1 ?_
              refine s_zeq hP t19_102 (fun q102 => ?_) (fun q102 => ?_)
              · refine s_bipush (v := 45) hP t19_117 (by decide) ?_
                refine s_ireturn hP t19_119 rfl rfl ?_
                have e9 : mc_tool ha (a1 1) (s1 16) (s1 17) (s1 18) (s1 10) (s1 15) = 45 := by rw [mc_tool, if_neg q6, if_neg (fun q => q.2.1 q47), if_neg (fun q => q.elim (fun q => q.1.elim (fun r => by rw [q68] at r; cases r) (fun r => q77 r)) (fun q => by rw [q102] at q; cases q.1))]
                rw [e9] at k
                exact k
              · refine s_aload_n hP t19_105 rfl ?_
                refine s_getfield hP t19_106 rfl rfl ?_
                refine s_if_ne hP t19_109 (fun q109 => ?_) (fun q109 => ?_)
                · refine s_bipush (v := 45) hP t19_117 (by decide) ?_
                  refine s_ireturn hP t19_119 rfl rfl ?_
                  have e9 : mc_tool ha (a1 1) (s1 16) (s1 17) (s1 18) (s1 10) (s1 15) = 45 := by rw [mc_tool, if_neg q6, if_neg (fun q => q.2.1 q47), if_neg (fun q => q.elim (fun q => q.1.elim (fun r => by rw [q68] at r; cases r) (fun r => q77 r)) (fun q => q109 q.2))]
                  rw [e9] at k
                  exact k
                · refine s_bipush (v := 115) hP t19_112 (by decide) ?_
                  refine s_goto hP t19_114 ?_
                  refine s_ireturn hP t19_119 rfl rfl ?_
                  have e9 : mc_tool ha (a1 1) (s1 16) (s1 17) (s1 18) (s1 10) (s1 15) = 115 := by rw [mc_tool, if_neg q6, if_neg (fun q => q.2.1 q47), if_pos (Or.inr ⟨q102, q109⟩)]
                  rw [e9] at k
                  exact k
          · refine s_aload_n hP t19_80 rfl ?_
            refine s_getfield hP t19_81 rfl rfl ?_
            refine s_iconst (v := (-1)) hP t19_84 (by decide) ?_
            refine s_icmp_ne hP t19_85 (fun q85 => ?_) (fun q85 => ?_)
            · refine s_iconst (v := 0) hP t19_92 (by decide) ?_
              refine s_istore_n_1 hP t19_93 (by exact rfl) ?_
              refine s_iload_n hP t19_94 rfl ?_
              refine s_if_ne hP t19_95 (fun q95 => ?_) (fun q95 => ?_)
              · exact absurd rfl q95
              · refine s_aload_n hP t19_98 rfl ?_
                refine s_invokevirtual (bc' := 0) (bs' := 0) hP t19_99 rfl rfl rfl rfl rfl ?_
                refine sp21_1 ?_
                refine s_zeq hP t19_102 (fun q102 => ?_) (fun q102 => ?_)
                · refine s_bipush (v := 45) hP t19_117 (by decide) ?_
                  refine s_ireturn hP t19_119 rfl rfl ?_
                  have e9 : mc_tool ha (a1 1) (s1 16) (s1 17) (s1 18) (s1 10) (s1 15) = 45 := by rw [mc_tool, if_neg q6, if_neg (fun q => q.2.1 q47), if_neg (fun q => q.elim (fun q => q85 q.2) (fun q => by rw [q102] at q; cases q.1))]
                  rw [e9] at k
                  exact k
                · refine s_aload_n hP t19_105 rfl ?_
                  refine s_getfield hP t19_106 rfl rfl ?_
                  refine s_if_ne hP t19_109 (fun q109 => ?_) (fun q109 => ?_)
                  · refine s_bipush (v := 45) hP t19_117 (by decide) ?_
                    refine s_ireturn hP t19_119 rfl rfl ?_
                    have e9 : mc_tool ha (a1 1) (s1 16) (s1 17) (s1 18) (s1 10) (s1 15) = 45 := by rw [mc_tool, if_neg q6, if_neg (fun q => q.2.1 q47), if_neg (fun q => q.elim (fun q => q85 q.2) (fun q => q109 q.2))]
                    rw [e9] at k
                    exact k
                  · refine s_bipush (v := 115) hP t19_112 (by decide) ?_
                    refine s_goto hP t19_114 ?_
                    refine s_ireturn hP t19_119 rfl rfl ?_
                    have e9 : mc_tool ha (a1 1) (s1 16) (s1 17) (s1 18) (s1 10) (s1 15) = 115 := by rw [mc_tool, if_neg q6, if_neg (fun q => q.2.1 q47), if_pos (Or.inr ⟨q102, q109⟩)]
                    rw [e9] at k
                    exact k
            · refine s_iconst (v := 1) hP t19_88 (by decide) ?_
              refine s_goto hP t19_89 ?_
              refine s_istore_n_1 hP t19_93 (by exact rfl) ?_
              refine s_iload_n hP t19_94 rfl ?_
              refine s_if_ne hP t19_95 (fun q95 => ?_) (fun q95 => ?_)
              · refine s_bipush (v := 115) hP t19_112 (by decide) ?_
                refine s_goto hP t19_114 ?_
                refine s_ireturn hP t19_119 rfl rfl ?_
                have e9 : mc_tool ha (a1 1) (s1 16) (s1 17) (s1 18) (s1 10) (s1 15) = 115 := by rw [mc_tool, if_neg q6, if_neg (fun q => q.2.1 q47), if_pos (Or.inl ⟨Or.inr q77, q85⟩)]
                rw [e9] at k
                exact k
              · exact absurd rfl (show ¬ (1 : Int32) = 1 from fun _ => absurd q95 (by decide))
      · refine s_aload_n hP t19_50 rfl ?_
        refine s_aload_n hP t19_51 rfl ?_
        refine s_getfield hP t19_52 rfl rfl ?_
        refine s_invokevirtual (bc' := 0) (bs' := 0) hP t19_55 rfl rfl rfl rfl rfl ?_
        refine sp22_1 ?_
        refine s_zeq hP t19_58 (fun q58 => ?_) (fun q58 => ?_)
        · refine s_aload_n hP t19_64 rfl ?_
          refine s_invokevirtual (bc' := 0) (bs' := 0) hP t19_65 rfl rfl rfl rfl rfl ?_
          refine sp21_1 ?_
          refine s_zne hP t19_68 (fun q68 => ?_) (fun q68 => ?_)
          · refine s_aload_n hP t19_80 rfl ?_
            refine s_getfield hP t19_81 rfl rfl ?_
            refine s_iconst (v := (-1)) hP t19_84 (by decide) ?_
            refine s_icmp_ne hP t19_85 (fun q85 => ?_) (fun q85 => ?_)
            · refine s_iconst (v := 0) hP t19_92 (by decide) ?_
              refine s_istore_n_1 hP t19_93 (by exact rfl) ?_
              refine s_iload_n hP t19_94 rfl ?_
              refine s_if_ne hP t19_95 (fun q95 => ?_) (fun q95 => ?_)
              · exact absurd rfl q95
              · refine s_aload_n hP t19_98 rfl ?_
                refine s_invokevirtual (bc' := 0) (bs' := 0) hP t19_99 rfl rfl rfl rfl rfl ?_
                refine sp21_1 ?_
                refine s_zeq hP t19_102 (fun q102 => ?_) (fun q102 => ?_)
                · refine s_bipush (v := 45) hP t19_117 (by decide) ?_
                  refine s_ireturn hP t19_119 rfl rfl ?_
                  have e9 : mc_tool ha (a1 1) (s1 16) (s1 17) (s1 18) (s1 10) (s1 15) = 45 := by rw [mc_tool, if_neg q6, if_neg (fun q => by rw [q58] at q; cases q.2.2), if_neg (fun q => q.elim (fun q => q85 q.2) (fun q => by rw [q102] at q; cases q.1))]
                  rw [e9] at k
                  exact k
                · refine s_aload_n hP t19_105 rfl ?_
                  refine s_getfield hP t19_106 rfl rfl ?_
                  refine s_if_ne hP t19_109 (fun q109 => ?_) (fun q109 => ?_)
                  · refine s_bipush (v := 45) hP t19_117 (by decide) ?_
                    refine s_ireturn hP t19_119 rfl rfl ?_
                    have e9 : mc_tool ha (a1 1) (s1 16) (s1 17) (s1 18) (s1 10) (s1 15) = 45 := by rw [mc_tool, if_neg q6, if_neg (fun q => by rw [q58] at q; cases q.2.2), if_neg (fun q => q.elim (fun q => q85 q.2) (fun q => q109 q.2))]
                    rw [e9] at k
                    exact k
                  · refine s_bipush (v := 115) hP t19_112 (by decide) ?_
                    refine s_goto hP t19_114 ?_
                    refine s_ireturn hP t19_119 rfl rfl ?_
                    have e9 : mc_tool ha (a1 1) (s1 16) (s1 17) (s1 18) (s1 10) (s1 15) = 115 := by rw [mc_tool, if_neg q6, if_neg (fun q => by rw [q58] at q; cases q.2.2), if_pos (Or.inr ⟨q102, q109⟩)]
                    rw [e9] at k
                    exact k
            · refine s_iconst (v := 1) hP t19_88 (by decide) ?_
              refine s_goto hP t19_89 ?_
              refine s_istore_n_1 hP t19_93 (by exact rfl) ?_
              refine s_iload_n hP t19_94 rfl ?_
              refine s_if_ne hP t19_95 (fun q95 => ?_) (fun q95 => ?_)
              · refine s_bipush (v := 115) hP t19_112 (by decide) ?_
                refine s_goto hP t19_114 ?_
                refine s_ireturn hP t19_119 rfl rfl ?_
                have e9 : mc_tool ha (a1 1) (s1 16) (s1 17) (s1 18) (s1 10) (s1 15) = 115 := by rw [mc_tool, if_neg q6, if_neg (fun q => by rw [q58] at q; cases q.2.2), if_pos (Or.inl ⟨Or.inl (q68), q85⟩)]
                rw [e9] at k
                exact k
              · exact absurd rfl (show ¬ (1 : Int32) = 1 from fun _ => absurd q95 (by decide))
          · refine s_aload_n hP t19_71 rfl ?_
            refine s_getfield hP t19_72 rfl rfl ?_
            refine s_bipush (v := 120) hP t19_75 (by decide) ?_
            refine s_icmp_ne hP t19_77 (fun q77 => ?_) (fun q77 => ?_)
            · refine s_iconst (v := 0) hP t19_92 (by decide) ?_
              refine s_istore_n_1 hP t19_93 (by exact rfl) ?_
              refine s_iload_n hP t19_94 rfl ?_
              refine s_if_ne hP t19_95 (fun q95 => ?_) (fun q95 => ?_)
              · exact absurd rfl q95
              · refine s_aload_n hP t19_98 rfl ?_
                refine s_invokevirtual (bc' := 0) (bs' := 0) hP t19_99 rfl rfl rfl rfl rfl ?_
                refine sp21_1 ?_
                refine s_zeq hP t19_102 (fun q102 => ?_) (fun q102 => ?_)
                · refine s_bipush (v := 45) hP t19_117 (by decide) ?_
                  refine s_ireturn hP t19_119 rfl rfl ?_
                  have e9 : mc_tool ha (a1 1) (s1 16) (s1 17) (s1 18) (s1 10) (s1 15) = 45 := by rw [mc_tool, if_neg q6, if_neg (fun q => by rw [q58] at q; cases q.2.2), if_neg (fun q => q.elim (fun q => q.1.elim (fun r => by rw [q68] at r; cases r) (fun r => q77 r)) (fun q => by rw [q102] at q; cases q.1))]
                  rw [e9] at k
                  exact k
                · refine s_aload_n hP t19_105 rfl ?_
                  refine s_getfield hP t19_106 rfl rfl ?_
                  refine s_if_ne hP t19_109 (fun q109 => ?_) (fun q109 => ?_)
                  · refine s_bipush (v := 45) hP t19_117 (by decide) ?_
                    refine s_ireturn hP t19_119 rfl rfl ?_
                    have e9 : mc_tool ha (a1 1) (s1 16) (s1 17) (s1 18) (s1 10) (s1 15) = 45 := by rw [mc_tool, if_neg q6, if_neg (fun q => by rw [q58] at q; cases q.2.2), if_neg (fun q => q.elim (fun q => q.1.elim (fun r => by rw [q68] at r; cases r) (fun r => q77 r)) (fun q => q109 q.2))]
                    rw [e9] at k
                    exact k
                  · refine s_bipush (v := 115) hP t19_112 (by decide) ?_
                    refine s_goto hP t19_114 ?_
                    refine s_ireturn hP t19_119 rfl rfl ?_
                    have e9 : mc_tool ha (a1 1) (s1 16) (s1 17) (s1 18) (s1 10) (s1 15) = 115 := by rw [mc_tool, if_neg q6, if_neg (fun q => by rw [q58] at q; cases q.2.2), if_pos (Or.inr ⟨q102, q109⟩)]
                    rw [e9] at k
                    exact k
            · refine s_aload_n hP t19_80 rfl ?_
              refine s_getfield hP t19_81 rfl rfl ?_
              refine s_iconst (v := (-1)) hP t19_84 (by decide) ?_
              refine s_icmp_ne hP t19_85 (fun q85 => ?_) (fun q85 => ?_)
              · refine s_iconst (v := 0) hP t19_92 (by decide) ?_
                refine s_istore_n_1 hP t19_93 (by exact rfl) ?_
                refine s_iload_n hP t19_94 rfl ?_
                refine s_if_ne hP t19_95 (fun q95 => ?_) (fun q95 => ?_)
                · exact absurd rfl q95
                · refine s_aload_n hP t19_98 rfl ?_
                  refine s_invokevirtual (bc' := 0) (bs' := 0) hP t19_99 rfl rfl rfl rfl rfl ?_
                  refine sp21_1 ?_
                  refine s_zeq hP t19_102 (fun q102 => ?_) (fun q102 => ?_)
                  · refine s_bipush (v := 45) hP t19_117 (by decide) ?_
                    refine s_ireturn hP t19_119 rfl rfl ?_
                    have e9 : mc_tool ha (a1 1) (s1 16) (s1 17) (s1 18) (s1 10) (s1 15) = 45 := by rw [mc_tool, if_neg q6, if_neg (fun q => by rw [q58] at q; cases q.2.2), if_neg (fun q => q.elim (fun q => q85 q.2) (fun q => by rw [q102] at q; cases q.1))]
                    rw [e9] at k
                    exact k
                  · refine s_aload_n hP t19_105 rfl ?_
                    refine s_getfield hP t19_106 rfl rfl ?_
                    refine s_if_ne hP t19_109 (fun q109 => ?_) (fun q109 => ?_)
                    · refine s_bipush (v := 45) hP t19_117 (by decide) ?_
                      refine s_ireturn hP t19_119 rfl rfl ?_
                      have e9 : mc_tool ha (a1 1) (s1 16) (s1 17) (s1 18) (s1 10) (s1 15) = 45 := by rw [mc_tool, if_neg q6, if_neg (fun q => by rw [q58] at q; cases q.2.2), if_neg (fun q => q.elim (fun q => q85 q.2) (fun q => q109 q.2))]
                      rw [e9] at k
                      exact k
                    · refine s_bipush (v := 115) hP t19_112 (by decide) ?_
                      refine s_goto hP t19_114 ?_
                      refine s_ireturn hP t19_119 rfl rfl ?_
                      have e9 : mc_tool ha (a1 1) (s1 16) (s1 17) (s1 18) (s1 10) (s1 15) = 115 := by rw [mc_tool, if_neg q6, if_neg (fun q => by rw [q58] at q; cases q.2.2), if_pos (Or.inr ⟨q102, q109⟩)]
                      rw [e9] at k
                      exact k
              · refine s_iconst (v := 1) hP t19_88 (by decide) ?_
                refine s_goto hP t19_89 ?_
                refine s_istore_n_1 hP t19_93 (by exact rfl) ?_
                refine s_iload_n hP t19_94 rfl ?_
                refine s_if_ne hP t19_95 (fun q95 => ?_) (fun q95 => ?_)
                · refine s_bipush (v := 115) hP t19_112 (by decide) ?_
                  refine s_goto hP t19_114 ?_
                  refine s_ireturn hP t19_119 rfl rfl ?_
                  have e9 : mc_tool ha (a1 1) (s1 16) (s1 17) (s1 18) (s1 10) (s1 15) = 115 := by rw [mc_tool, if_neg q6, if_neg (fun q => by rw [q58] at q; cases q.2.2), if_pos (Or.inl ⟨Or.inr q77, q85⟩)]
                  rw [e9] at k
                  exact k
                · exact absurd rfl (show ¬ (1 : Int32) = 1 from fun _ => absurd q95 (by decide))
        · refine s_bipush (v := 119) hP t19_61 (by decide) ?_
          refine s_ireturn hP t19_63 rfl rfl ?_
          have e9 : mc_tool ha (a1 1) (s1 16) (s1 17) (s1 18) (s1 10) (s1 15) = 119 := by rw [mc_tool, if_neg q6, if_pos ⟨q39, q47, q58⟩]
          rw [e9] at k
          exact k
  · refine s_aload_n hP t19_9 rfl ?_
    refine s_getfield hP t19_10 rfl rfl ?_
    refine s_if_eq hP t19_13 (fun q13 => ?_) (fun q13 => ?_)
    · refine s_aload_n hP t19_19 rfl ?_
      refine s_invokevirtual (bc' := 0) (bs' := 0) hP t19_20 rfl rfl rfl rfl rfl ?_
      obtain ⟨A, B, hA, hB, hA3, hB4⟩ := h116 q6
      refine sp23_1 (A := A) (B := B) hA hB hA3 hB4 ?_
      refine s_iconst (v := (-1)) hP t19_23 (by decide) ?_
      refine s_icmp_ne hP t19_24 (fun q24 => ?_) (fun q24 => ?_)
      · refine s_bipush (v := 45) hP t19_32 (by decide) ?_
        refine s_ireturn hP t19_34 rfl rfl ?_
        have e9 : mc_tool ha (a1 1) (s1 16) (s1 17) (s1 18) (s1 10) (s1 15) = 45 := by rw [mc_tool, if_pos q6, if_neg (fun q => q q13), hA, hB, nI_clamp (by omega), nI_clamp (by omega), if_neg q24]
        rw [e9] at k
        exact k
      · refine s_bipush (v := 119) hP t19_27 (by decide) ?_
        refine s_goto hP t19_29 ?_
        refine s_ireturn hP t19_34 rfl rfl ?_
        have e9 : mc_tool ha (a1 1) (s1 16) (s1 17) (s1 18) (s1 10) (s1 15) = 119 := by rw [mc_tool, if_pos q6, if_neg (fun q => q q13), hA, hB, nI_clamp (by omega), nI_clamp (by omega), if_pos q24]
        rw [e9] at k
        exact k
    · refine s_bipush (v := 116) hP t19_16 (by decide) ?_
      refine s_ireturn hP t19_18 rfl rfl ?_
      have e9 : mc_tool ha (a1 1) (s1 16) (s1 17) (s1 18) (s1 10) (s1 15) = 116 := by rw [mc_tool, if_pos q6, if_pos q13]
      rw [e9] at k
      exact k
set_option maxHeartbeats 1000000 in
theorem sp32_2 {d : Nat} {K : am_K} {ha : Nat → Nat → Int32} {hz : Int32} {a1 : Nat → Nat → Int32} {s1 : Nat → Int32} {t1 : UInt32} {a2 : Nat → Nat → Int32} {s2 : Nat → Int32} {t2 : UInt32} {al : Int32} {ma : Nat → Nat → Int32} {ms : Nat → Int32} {mt : UInt32} {ol : Nat → Int64} {od : Nat → UInt64} {S : Nat → Bool} {sh R X Y Z : Nat} (hS : ∀ j, j < 72 → a2 0 j = mr_w (fun q => S (16 * j + q))) (hs1 : s2 21 = nI sh) (hs2 : s2 22 = nI R) (hsh : sh = 101 ∨ sh = 98 ∨ sh = 118) (hR : R < 4) (hX : a2 3 0 = nI X) (hY : a2 3 1 = nI Y) (hZ : a2 3 2 = nI Z) (hX9 : X < 16) (hY9 : Y < 12) (hZ9 : Z < 10) (k : ∀ v : Bool, (v = true ↔ mx_meet S sh R X Y Z) → K (some (.int (am_b v))) (am_W ha hz a1 s1 t1 a2 (mc_mv s2 (nI X) (nI Y) (nI Z)) t2 al ma ms mt ol od)) : am_Run (d + 3) 32 [.ref 27] (am_W ha hz a1 s1 t1 a2 s2 t2 al ma ms mt ol od) K := by
  refine ⟨rfl, fun P hm hP => ?_⟩
  show P 0 [some (.ref 27)] [] _ 0 0
  refine s_aload_n hP t32_0 rfl ?_
  refine s_getfield hP t32_1 rfl rfl ?_
  refine s_aload_n hP t32_4 rfl ?_
  refine s_getfield hP t32_5 rfl rfl ?_
  refine s_iconst (v := 0) hP t32_8 (by decide) ?_
  refine s_iaload hP t32_9 rfl (vp_in_nI (n := 0) (by decide) (by decide)) ?_
  rw [show (0 : Int32).toNatClampNeg = 0 from rfl, hX]
  refine s_aload_n hP t32_10 rfl ?_
  refine s_getfield hP t32_11 rfl rfl ?_
  refine s_iconst (v := 1) hP t32_14 (by decide) ?_
  refine s_iaload hP t32_15 rfl (vp_in_nI (n := 1) (by decide) (by decide)) ?_
  rw [show (1 : Int32).toNatClampNeg = 1 from rfl, hY]
  refine s_aload_n hP t32_16 rfl ?_
  refine s_getfield hP t32_17 rfl rfl ?_
  refine s_iconst (v := 2) hP t32_20 (by decide) ?_
  refine s_iaload hP t32_21 rfl (vp_in_nI (n := 2) (by decide) (by decide)) ?_
  rw [show (2 : Int32).toNatClampNeg = 2 from rfl, hZ]
  refine s_invokevirtual (bc' := 0) (bs' := 0) hP t32_22 rfl rfl rfl rfl rfl ?_
  refine sp63_2 ?_
  refine s_aload_n hP t32_25 rfl ?_
  refine s_getfield hP t32_26 rfl rfl ?_
  refine s_aload_n hP t32_29 rfl ?_
  refine s_getfield hP t32_30 rfl rfl ?_
  refine s_invokevirtual (bc' := 0) (bs' := 0) hP t32_33 rfl rfl rfl rfl rfl ?_
  refine sp8 (S := S) (s := sh) (R := R) (X := X) (Y := Y) (Z := Z) rfl rfl hS ?_ hsh hR hX9 hY9 hZ9 (fun v hv => ?_)
  · rw [← hs1, ← hs2]
    rfl
  refine s_ireturn hP t32_36 rfl (am_nar_b _) ?_
  exact k v hv
set_option maxHeartbeats 2000000 in
theorem sp37_2 {d : Nat} {K : am_K} {ha : Nat → Nat → Int32} {hz : Int32} {a1 : Nat → Nat → Int32} {s1 : Nat → Int32} {t1 : UInt32} {a2 : Nat → Nat → Int32} {s2 : Nat → Int32} {t2 : UInt32} {al : Int32} {ma : Nat → Nat → Int32} {ms : Nat → Int32} {mt : UInt32} {ol : Nat → Int64} {od : Nat → UInt64} {S : Nat → Bool} {sh R X Y Z : Nat} (hS : ∀ j, j < 72 → a2 0 j = mr_w (fun q => S (16 * j + q))) (hs1 : s2 21 = nI sh) (hs2 : s2 22 = nI R) (hsh : sh = 101 ∨ sh = 98 ∨ sh = 118) (hR : R < 4) (hX : a2 3 0 = nI X) (hY : a2 3 1 = nI Y) (hZ : a2 3 2 = nI Z) (hX9 : X < 16) (hY9 : Y < 12) (hZ9 : Z < 10) (k : ∀ x y z : Int32, K (some (.int (nI (me_lev (fun l => mx_d (mx_meet S sh R X Y l)) Z)))) (am_W ha hz a1 s1 t1 a2 (mc_mv s2 x y z) t2 al ma ms mt ol od)) : am_Run (d + 3) 37 [.ref 27] (am_W ha hz a1 s1 t1 a2 s2 t2 al ma ms mt ol od) K := by
  refine ⟨rfl, fun P hm hP => ?_⟩
  show P 0 [some (.ref 27), none] [] _ 0 0
  have loop : ∀ (l : Nat) (x y z : Int32), l ≤ Z → me_lev (fun l => mx_d (mx_meet S sh R X Y l)) l = me_lev (fun l => mx_d (mx_meet S sh R X Y l)) Z → P 7 [some (.ref 27), some (.int (nI l))] [] (am_W ha hz a1 s1 t1 a2 (mc_mv s2 x y z) t2 al ma ms mt ol od) 0 0 := by
    intro l
    induction l with
    | zero =>
      intro x y z _ he
      refine s_iload_n hP t37_7 rfl ?_
      refine s_if_le hP t37_8 (fun q8 => ?_) (fun q8 => absurd (by decide +kernel) q8)
      refine s_iconst (v := 0) hP t37_55 (by decide) ?_
      refine s_ireturn hP t37_56 rfl rfl ?_
      rw [← he] at k
      exact k x y z
    | succ l ih =>
      intro x y z hl he
      refine s_iload_n hP t37_7 rfl ?_
      refine s_if_le hP t37_8 (fun q8 => ?_) (fun q8 => ?_)
      · exact absurd (nI_lt (a := 0) (b := l + 1) (by omega) (by omega)) (Int32.not_lt.mpr q8)
      · refine s_aload_n hP t37_11 rfl ?_
        refine s_getfield hP t37_12 rfl rfl ?_
        refine s_aload_n hP t37_15 rfl ?_
        refine s_getfield hP t37_16 rfl rfl ?_
        refine s_iconst (v := 0) hP t37_19 (by decide) ?_
        refine s_iaload hP t37_20 rfl (vp_in_nI (n := 0) (by decide) (by decide)) ?_
        rw [show (0 : Int32).toNatClampNeg = 0 from rfl, hX]
        refine s_aload_n hP t37_21 rfl ?_
        refine s_getfield hP t37_22 rfl rfl ?_
        refine s_iconst (v := 1) hP t37_25 (by decide) ?_
        refine s_iaload hP t37_26 rfl (vp_in_nI (n := 1) (by decide) (by decide)) ?_
        rw [show (1 : Int32).toNatClampNeg = 1 from rfl, hY]
        refine s_iload_n hP t37_27 rfl ?_
        refine s_iconst (v := 1) hP t37_28 (by decide) ?_
        refine s_isub hP t37_29 ?_
        rw [nI_pred]
        refine s_invokevirtual (bc' := 0) (bs' := 0) hP t37_30 rfl rfl rfl rfl rfl ?_
        refine sp63_2 ?_
        rw [show am_u1 (am_u1 (am_u1 (mc_mv s2 x y z) 23 (nI X)) 24 (nI Y)) 25 (nI l) = mc_mv (mc_mv s2 x y z) (nI X) (nI Y) (nI l) from rfl, mc_mv_mv]
        refine s_aload_n hP t37_33 rfl ?_
        refine s_getfield hP t37_34 rfl rfl ?_
        refine s_aload_n hP t37_37 rfl ?_
        refine s_getfield hP t37_38 rfl rfl ?_
        refine s_invokevirtual (bc' := 0) (bs' := 0) hP t37_41 rfl rfl rfl rfl rfl ?_
        refine sp8 (S := S) (s := sh) (R := R) (X := X) (Y := Y) (Z := l) rfl rfl hS ?_ hsh hR hX9 hY9 (by omega) (fun v hv => ?_)
        · rw [← hs1, ← hs2]
          rfl
        have hv9 : v = mx_d (mx_meet S sh R X Y l) := mx_d_eq hv
        refine s_zeq hP t37_44 (fun q44 => ?_) (fun q44 => ?_)
        · refine s_iinc_1 (v := (-1)) hP t37_49 (by decide) (by exact rfl) ?_
          refine s_goto hP t37_52 ?_
          rw [mi_m1, nI_pred]
          exact ih _ _ _ (by omega) (by rw [← he, me_lev, if_neg (by show ¬ mx_d (mx_meet S sh R X Y l) = true; rw [← hv9, q44]; decide)])
        · refine s_iload_n hP t37_47 rfl ?_
          refine s_ireturn hP t37_48 rfl rfl ?_
          rw [← he, me_lev, if_pos (show mx_d (mx_meet S sh R X Y l) = true by rw [← hv9, q44])] at k
          exact k _ _ _
  refine s_aload_n hP t37_0 rfl ?_
  refine s_getfield hP t37_1 rfl rfl ?_
  refine s_iconst (v := 2) hP t37_4 (by decide) ?_
  refine s_iaload hP t37_5 rfl (vp_in_nI (n := 2) (by decide) (by decide)) ?_
  rw [show (2 : Int32).toNatClampNeg = 2 from rfl, hZ]
  refine s_istore_n_1 hP t37_6 (by exact rfl) ?_
  have l9 := loop Z (s2 23) (s2 24) (s2 25) (Nat.le_refl _) rfl
  rw [mc_mv_self] at l9
  exact l9
set_option maxHeartbeats 2000000 in
theorem sp20_2 {d : Nat} {K : am_K} {ha : Nat → Nat → Int32} {hz : Int32} {a1 : Nat → Nat → Int32} {s1 : Nat → Int32} {t1 : UInt32} {a2 : Nat → Nat → Int32} {s2 : Nat → Int32} {t2 : UInt32} {al : Int32} {ma : Nat → Nat → Int32} {ms : Nat → Int32} {mt : UInt32} {ol : Nat → Int64} {od : Nat → UInt64} {es : List ml_L} (hH : ml_hold (a2 5) (a2 6) es) (hL : s2 20 = nI es.length) (hL9 : es.length ≤ 102) {S T : Nat → Bool} {sh R X Y Z : Nat} (hS : ∀ j, j < 72 → a2 0 j = mr_w (fun q => S (16 * j + q))) (hT : ∀ j, j < 72 → ha 3 j = mr_w (fun q => T (16 * j + q))) (hs : ¬ s2 10 = -1 → s2 21 = nI sh ∧ s2 22 = nI R) (hsh : sh = 101 ∨ sh = 98 ∨ sh = 118) (hR : R < 4) (hX : a2 3 0 = nI X) (hY : a2 3 1 = nI Y) (hZ : a2 3 2 = nI Z) (hX9 : X < 16) (hY9 : Y < 12) (hZ9 : Z < 10) (hx : s2 16 = 120 → ¬ s2 10 = -1) (hin : (∀ e ∈ es, ml_ins e = true) → ∀ e ∈ es, ml_inn e) (k : ∀ x y z : Int32, K (some (.int (me_cell (s2 16) (s2 10) S T sh R X Y Z es))) (am_W ha hz a1 s1 t1 a2 (mc_mv s2 x y z) t2 al ma ms mt ol od)) : am_Run (d + 5) 20 [.ref 27] (am_W ha hz a1 s1 t1 a2 s2 t2 al ma ms mt ol od) K := by
  refine ⟨rfl, fun P hm hP => ?_⟩
  show P 0 [some (.ref 27)] [] _ 0 0
  by_cases hsl0 : s2 10 = -1
  case pos =>
    refine s_aload_n hP t20_0 rfl ?_
    refine s_getfield hP t20_1 rfl rfl ?_
    refine s_invokevirtual (bc' := 0) (bs' := 0) hP t20_4 rfl rfl rfl rfl rfl ?_
    have h48 : am_nth (am_W ha hz a1 s1 t1 a2 s2 t2 al ma ms mt ol od) 34 = some (.inr (3, [.ref 35, .ref 36, .ref 37, .int (nI es.length)])) := by
      rw [← hL]
      rfl
    refine sp48 h48 rfl rfl hL9 (fun v hv => ?_)
    have hv9 : v = me_out es := by rw [Bool.eq_iff_iff, hv, me_out_iff hH]
    refine s_zeq hP t20_7 (fun q7 => ?_) (fun q7 => ?_)
    · refine s_aload_n hP t20_13 rfl ?_
      refine s_aload_n hP t20_14 rfl ?_
      refine s_getfield hP t20_15 rfl rfl ?_
      refine s_getfield hP t20_18 rfl rfl ?_
      refine s_invokevirtual (bc' := 0) (bs' := 0) hP t20_21 rfl rfl rfl rfl rfl ?_
      refine sp29_2f0 hsl0 ?_
      refine s_if_ne hP t20_24 (fun q24 => ?_) (fun q24 => ?_)
      · exact absurd rfl q24
      · refine s_aload_n hP t20_27 rfl ?_
        refine s_getfield hP t20_28 rfl rfl ?_
        refine s_bipush (v := 103) hP t20_31 (by decide) ?_
        refine s_icmp_ne hP t20_33 (fun q33 => ?_) (fun q33 => ?_)
        · refine s_aload_n hP t20_50 rfl ?_
          refine s_getfield hP t20_51 rfl rfl ?_
          refine s_bipush (v := 120) hP t20_54 (by decide) ?_
          refine s_icmp_ne hP t20_56 (fun q56 => ?_) (fun q56 => ?_)
          · refine s_bipush (v := 45) hP t20_71 (by decide) ?_
            refine s_ireturn hP t20_73 rfl rfl ?_
            have e9 : me_cell (s2 16) (s2 10) S T sh R X Y Z es = 45 := by rw [me_cell, if_neg (by rw [← hv9, q7]; decide), if_neg (fun q => q.1 hsl0), if_neg (fun q => hx q.1 hsl0)]
            rw [e9] at k
            have k9 := k (s2 23) (s2 24) (s2 25)
            rw [mc_mv_self] at k9
            exact k9
          · exact absurd hsl0 (hx q56)
        · refine s_aload_n hP t20_36 rfl ?_
          refine s_aload_n hP t20_37 rfl ?_
          refine s_getfield hP t20_38 rfl rfl ?_
          refine s_invokevirtual (bc' := 0) (bs' := 0) hP t20_41 rfl rfl rfl rfl rfl ?_
          refine sp29_2s0 hsl0 ?_
          refine s_if_eq hP t20_44 (fun q44 => ?_) (fun q44 => ?_)
          · refine s_aload_n hP t20_50 rfl ?_
            refine s_getfield hP t20_51 rfl rfl ?_
            refine s_bipush (v := 120) hP t20_54 (by decide) ?_
            refine s_icmp_ne hP t20_56 (fun q56 => ?_) (fun q56 => ?_)
            · refine s_bipush (v := 45) hP t20_71 (by decide) ?_
              refine s_ireturn hP t20_73 rfl rfl ?_
              have e9 : me_cell (s2 16) (s2 10) S T sh R X Y Z es = 45 := by rw [me_cell, if_neg (by rw [← hv9, q7]; decide), if_neg (fun q => q.1 hsl0), if_neg (fun q => hx q.1 hsl0)]
              rw [e9] at k
              have k9 := k (s2 23) (s2 24) (s2 25)
              rw [mc_mv_self] at k9
              exact k9
            · exact absurd hsl0 (hx q56)
          · exact absurd rfl q44
    · refine s_bipush (v := 108) hP t20_10 (by decide) ?_
      refine s_ireturn hP t20_12 rfl rfl ?_
      have e9 : me_cell (s2 16) (s2 10) S T sh R X Y Z es = 108 := by rw [me_cell, if_pos (by rw [← hv9]; exact q7)]
      rw [e9] at k
      have k9 := k (s2 23) (s2 24) (s2 25)
      rw [mc_mv_self] at k9
      exact k9
  case neg =>
    refine s_aload_n hP t20_0 rfl ?_
    refine s_getfield hP t20_1 rfl rfl ?_
    refine s_invokevirtual (bc' := 0) (bs' := 0) hP t20_4 rfl rfl rfl rfl rfl ?_
    have h48 : am_nth (am_W ha hz a1 s1 t1 a2 s2 t2 al ma ms mt ol od) 34 = some (.inr (3, [.ref 35, .ref 36, .ref 37, .int (nI es.length)])) := by
      rw [← hL]
      rfl
    refine sp48 h48 rfl rfl hL9 (fun v hv => ?_)
    have hv9 : v = me_out es := by rw [Bool.eq_iff_iff, hv, me_out_iff hH]
    refine s_zeq hP t20_7 (fun q7 => ?_) (fun q7 => ?_)
    · refine s_aload_n hP t20_13 rfl ?_
      refine s_aload_n hP t20_14 rfl ?_
      refine s_getfield hP t20_15 rfl rfl ?_
      refine s_getfield hP t20_18 rfl rfl ?_
      refine s_invokevirtual (bc' := 0) (bs' := 0) hP t20_21 rfl rfl rfl rfl rfl ?_
      have hin9 := hin (me_out_no (by rw [← hv9]; exact q7))
      obtain ⟨hs1, hs2⟩ := hs hsl0
      refine sp29_2f (es := es) (S := T) (sh := sh) (R := R) hH hL hL9 hT hsl0 hs1 hs2 hsh hR hin9 (fun w x9 y9 z9 hw => ?_)
      have w9 := mx_d_eq hw
      refine s_zne hP t20_24 (fun q24 => ?_) (fun q24 => ?_)
      · refine s_bipush (v := 99) hP t20_47 (by decide) ?_
        refine s_ireturn hP t20_49 rfl rfl ?_
        have e9 : me_cell (s2 16) (s2 10) S T sh R X Y Z es = 99 := by rw [me_cell, if_neg (by rw [← hv9, q7]; decide), if_pos ⟨hsl0, Or.inl (by rw [← w9]; exact q24)⟩]
        rw [e9] at k
        exact k _ _ _
      · refine s_aload_n hP t20_27 rfl ?_
        refine s_getfield hP t20_28 rfl rfl ?_
        refine s_bipush (v := 103) hP t20_31 (by decide) ?_
        refine s_icmp_ne hP t20_33 (fun q33 => ?_) (fun q33 => ?_)
        · refine s_aload_n hP t20_50 rfl ?_
          refine s_getfield hP t20_51 rfl rfl ?_
          refine s_bipush (v := 120) hP t20_54 (by decide) ?_
          refine s_icmp_ne hP t20_56 (fun q56 => ?_) (fun q56 => ?_)
          · refine s_bipush (v := 45) hP t20_71 (by decide) ?_
            refine s_ireturn hP t20_73 rfl rfl ?_
            have e9 : me_cell (s2 16) (s2 10) S T sh R X Y Z es = 45 := by rw [me_cell, if_neg (by rw [← hv9, q7]; decide), if_neg (fun q => q.2.elim (fun r => by rw [← w9, q24] at r; cases r) (fun r => q33 r.1)), if_neg (fun q => q56 q.1)]
            rw [e9] at k
            exact k _ _ _
          · refine s_aload_n hP t20_59 rfl ?_
            refine s_invokevirtual (bc' := 0) (bs' := 0) hP t20_60 rfl rfl rfl rfl rfl ?_
            refine sp32_2 (s2 := mc_mv s2 x9 y9 z9) (S := S) (sh := sh) (R := R) hS hs1 hs2 hsh hR hX hY hZ hX9 hY9 hZ9 (fun p hp => ?_)
            have p9 := mx_d_eq hp
            rw [mc_mv_mv]
            refine s_zeq hP t20_63 (fun q63 => ?_) (fun q63 => ?_)
            · refine s_bipush (v := 45) hP t20_71 (by decide) ?_
              refine s_ireturn hP t20_73 rfl rfl ?_
              have e9 : me_cell (s2 16) (s2 10) S T sh R X Y Z es = 45 := by rw [me_cell, if_neg (by rw [← hv9, q7]; decide), if_neg (fun q => q.2.elim (fun r => by rw [← w9, q24] at r; cases r) (fun r => q33 r.1)), if_neg (fun q => by rw [← p9, q63] at q; cases q.2)]
              rw [e9] at k
              exact k _ _ _
            · refine s_bipush (v := 120) hP t20_66 (by decide) ?_
              refine s_goto hP t20_68 ?_
              refine s_ireturn hP t20_73 rfl rfl ?_
              have e9 : me_cell (s2 16) (s2 10) S T sh R X Y Z es = 120 := by rw [me_cell, if_neg (by rw [← hv9, q7]; decide), if_neg (fun q => q.2.elim (fun r => by rw [← w9, q24] at r; cases r) (fun r => q33 r.1)), if_pos ⟨q56, by rw [← p9]; exact q63⟩]
              rw [e9] at k
              exact k _ _ _
        · refine s_aload_n hP t20_36 rfl ?_
          refine s_aload_n hP t20_37 rfl ?_
          refine s_getfield hP t20_38 rfl rfl ?_
          refine s_invokevirtual (bc' := 0) (bs' := 0) hP t20_41 rfl rfl rfl rfl rfl ?_
          refine sp29_2s (s2 := mc_mv s2 x9 y9 z9) (es := es) (S := S) (sh := sh) (R := R) hH hL hL9 hS hsl0 hs1 hs2 hsh hR hin9 (fun u x9 y9 z9 hu => ?_)
          have u9 := mx_d_eq hu
          rw [mc_mv_mv]
          refine s_zeq hP t20_44 (fun q44 => ?_) (fun q44 => ?_)
          · refine s_aload_n hP t20_50 rfl ?_
            refine s_getfield hP t20_51 rfl rfl ?_
            refine s_bipush (v := 120) hP t20_54 (by decide) ?_
            refine s_icmp_ne hP t20_56 (fun q56 => ?_) (fun q56 => ?_)
            · refine s_bipush (v := 45) hP t20_71 (by decide) ?_
              refine s_ireturn hP t20_73 rfl rfl ?_
              have e9 : me_cell (s2 16) (s2 10) S T sh R X Y Z es = 45 := by rw [me_cell, if_neg (by rw [← hv9, q7]; decide), if_neg (fun q => q.2.elim (fun r => by rw [← w9, q24] at r; cases r) (fun r => by rw [← u9, q44] at r; cases r.2)), if_neg (fun q => q56 q.1)]
              rw [e9] at k
              exact k _ _ _
            · refine s_aload_n hP t20_59 rfl ?_
              refine s_invokevirtual (bc' := 0) (bs' := 0) hP t20_60 rfl rfl rfl rfl rfl ?_
              refine sp32_2 (s2 := mc_mv s2 x9 y9 z9) (S := S) (sh := sh) (R := R) hS hs1 hs2 hsh hR hX hY hZ hX9 hY9 hZ9 (fun p hp => ?_)
              have p9 := mx_d_eq hp
              rw [mc_mv_mv]
              refine s_zeq hP t20_63 (fun q63 => ?_) (fun q63 => ?_)
              · refine s_bipush (v := 45) hP t20_71 (by decide) ?_
                refine s_ireturn hP t20_73 rfl rfl ?_
                have e9 : me_cell (s2 16) (s2 10) S T sh R X Y Z es = 45 := by rw [me_cell, if_neg (by rw [← hv9, q7]; decide), if_neg (fun q => q.2.elim (fun r => by rw [← w9, q24] at r; cases r) (fun r => by rw [← u9, q44] at r; cases r.2)), if_neg (fun q => by rw [← p9, q63] at q; cases q.2)]
                rw [e9] at k
                exact k _ _ _
              · refine s_bipush (v := 120) hP t20_66 (by decide) ?_
                refine s_goto hP t20_68 ?_
                refine s_ireturn hP t20_73 rfl rfl ?_
                have e9 : me_cell (s2 16) (s2 10) S T sh R X Y Z es = 120 := by rw [me_cell, if_neg (by rw [← hv9, q7]; decide), if_neg (fun q => q.2.elim (fun r => by rw [← w9, q24] at r; cases r) (fun r => by rw [← u9, q44] at r; cases r.2)), if_pos ⟨q56, by rw [← p9]; exact q63⟩]
                rw [e9] at k
                exact k _ _ _
          · refine s_bipush (v := 99) hP t20_47 (by decide) ?_
            refine s_ireturn hP t20_49 rfl rfl ?_
            have e9 : me_cell (s2 16) (s2 10) S T sh R X Y Z es = 99 := by rw [me_cell, if_neg (by rw [← hv9, q7]; decide), if_pos ⟨hsl0, Or.inr ⟨q33, by rw [← u9]; exact q44⟩⟩]
            rw [e9] at k
            exact k _ _ _
    · refine s_bipush (v := 108) hP t20_10 (by decide) ?_
      refine s_ireturn hP t20_12 rfl rfl ?_
      have e9 : me_cell (s2 16) (s2 10) S T sh R X Y Z es = 108 := by rw [me_cell, if_pos (by rw [← hv9]; exact q7)]
      rw [e9] at k
      have k9 := k (s2 23) (s2 24) (s2 25)
      rw [mc_mv_self] at k9
      exact k9
set_option maxHeartbeats 2000000 in
theorem sp19_2 {d : Nat} {K : am_K} {ha : Nat → Nat → Int32} {hz : Int32} {a1 : Nat → Nat → Int32} {s1 : Nat → Int32} {t1 : UInt32} {a2 : Nat → Nat → Int32} {s2 : Nat → Int32} {t2 : UInt32} {al : Int32} {ma : Nat → Nat → Int32} {ms : Nat → Int32} {mt : UInt32} {ol : Nat → Int64} {od : Nat → UInt64} (h116 : s2 16 = 116 → ∃ A B, s2 17 = nI A ∧ s2 18 = nI B ∧ A < 3 ∧ B < 4) (k : K (some (.int (mc_tool ha (a2 1) (s2 16) (s2 17) (s2 18) (s2 10) (s2 15)))) (am_W ha hz a1 s1 t1 a2 s2 t2 al ma ms mt ol od)) : am_Run (d + 4) 19 [.ref 27] (am_W ha hz a1 s1 t1 a2 s2 t2 al ma ms mt ol od) K := by
  refine ⟨rfl, fun P hm hP => ?_⟩
  show P 0 [some (.ref 27), none] [] _ 0 0
  refine s_aload_n hP t19_0 rfl ?_
  refine s_getfield hP t19_1 rfl rfl ?_
  refine s_bipush (v := 116) hP t19_4 (by decide) ?_
  refine s_icmp_ne hP t19_6 (fun q6 => ?_) (fun q6 => ?_)
  · refine s_aload_n hP t19_35 rfl ?_
    refine s_invokevirtual (bc' := 0) (bs' := 0) hP t19_36 rfl rfl rfl rfl rfl ?_
    refine sp21_2 ?_
    refine s_zeq hP t19_39 (fun q39 => ?_) (fun q39 => ?_)
    · refine s_aload_n hP t19_64 rfl ?_
      refine s_invokevirtual (bc' := 0) (bs' := 0) hP t19_65 rfl rfl rfl rfl rfl ?_
      refine sp21_2 ?_
      refine s_zne hP t19_68 (fun q68 => ?_) (fun q68 => ?_)
      · refine s_aload_n hP t19_80 rfl ?_
        refine s_getfield hP t19_81 rfl rfl ?_
        refine s_iconst (v := (-1)) hP t19_84 (by decide) ?_
        refine s_icmp_ne hP t19_85 (fun q85 => ?_) (fun q85 => ?_)
        · refine s_iconst (v := 0) hP t19_92 (by decide) ?_
          refine s_istore_n_1 hP t19_93 (by exact rfl) ?_
          refine s_iload_n hP t19_94 rfl ?_
          refine s_if_ne hP t19_95 (fun q95 => ?_) (fun q95 => ?_)
          · exact absurd rfl q95
          · refine s_aload_n hP t19_98 rfl ?_
            refine s_invokevirtual (bc' := 0) (bs' := 0) hP t19_99 rfl rfl rfl rfl rfl ?_
            refine sp21_2 ?_
            refine s_zeq hP t19_102 (fun q102 => ?_) (fun q102 => ?_)
            · refine s_bipush (v := 45) hP t19_117 (by decide) ?_
              refine s_ireturn hP t19_119 rfl rfl ?_
              have e9 : mc_tool ha (a2 1) (s2 16) (s2 17) (s2 18) (s2 10) (s2 15) = 45 := by rw [mc_tool, if_neg q6, if_neg (fun q => by rw [q39] at q; cases q.1), if_neg (fun q => q.elim (fun q => q85 q.2) (fun q => by rw [q102] at q; cases q.1))]
              rw [e9] at k
              exact k
            · refine s_aload_n hP t19_105 rfl ?_
              refine s_getfield hP t19_106 rfl rfl ?_
              refine s_if_ne hP t19_109 (fun q109 => ?_) (fun q109 => ?_)
              · refine s_bipush (v := 45) hP t19_117 (by decide) ?_
                refine s_ireturn hP t19_119 rfl rfl ?_
                have e9 : mc_tool ha (a2 1) (s2 16) (s2 17) (s2 18) (s2 10) (s2 15) = 45 := by rw [mc_tool, if_neg q6, if_neg (fun q => by rw [q39] at q; cases q.1), if_neg (fun q => q.elim (fun q => q85 q.2) (fun q => q109 q.2))]
                rw [e9] at k
                exact k
              · refine s_bipush (v := 115) hP t19_112 (by decide) ?_
                refine s_goto hP t19_114 ?_
                refine s_ireturn hP t19_119 rfl rfl ?_
                have e9 : mc_tool ha (a2 1) (s2 16) (s2 17) (s2 18) (s2 10) (s2 15) = 115 := by rw [mc_tool, if_neg q6, if_neg (fun q => by rw [q39] at q; cases q.1), if_pos (Or.inr ⟨q102, q109⟩)]
                rw [e9] at k
                exact k
        · refine s_iconst (v := 1) hP t19_88 (by decide) ?_
          refine s_goto hP t19_89 ?_
          refine s_istore_n_1 hP t19_93 (by exact rfl) ?_
          refine s_iload_n hP t19_94 rfl ?_
          refine s_if_ne hP t19_95 (fun q95 => ?_) (fun q95 => ?_)
          · refine s_bipush (v := 115) hP t19_112 (by decide) ?_
            refine s_goto hP t19_114 ?_
            refine s_ireturn hP t19_119 rfl rfl ?_
            have e9 : mc_tool ha (a2 1) (s2 16) (s2 17) (s2 18) (s2 10) (s2 15) = 115 := by rw [mc_tool, if_neg q6, if_neg (fun q => by rw [q39] at q; cases q.1), if_pos (Or.inl ⟨Or.inl (q68), q85⟩)]
            rw [e9] at k
            exact k
          · exact absurd rfl (show ¬ (1 : Int32) = 1 from fun _ => absurd q95 (by decide))
      · refine s_aload_n hP t19_71 rfl ?_
        refine s_getfield hP t19_72 rfl rfl ?_
        refine s_bipush (v := 120) hP t19_75 (by decide) ?_
        refine s_icmp_ne hP t19_77 (fun q77 => ?_) (fun q77 => ?_)
        · refine s_iconst (v := 0) hP t19_92 (by decide) ?_
          refine s_istore_n_1 hP t19_93 (by exact rfl) ?_
          refine s_iload_n hP t19_94 rfl ?_
          refine s_if_ne hP t19_95 (fun q95 => ?_) (fun q95 => ?_)
          · exact absurd rfl q95
          · refine s_aload_n hP t19_98 rfl ?_
            refine s_invokevirtual (bc' := 0) (bs' := 0) hP t19_99 rfl rfl rfl rfl rfl ?_
            refine sp21_2 ?_
            refine s_zeq hP t19_102 (fun q102 => ?_) (fun q102 => ?_)
            · refine s_bipush (v := 45) hP t19_117 (by decide) ?_
              refine s_ireturn hP t19_119 rfl rfl ?_
              have e9 : mc_tool ha (a2 1) (s2 16) (s2 17) (s2 18) (s2 10) (s2 15) = 45 := by rw [mc_tool, if_neg q6, if_neg (fun q => by rw [q39] at q; cases q.1), if_neg (fun q => q.elim (fun q => q.1.elim (fun r => by rw [q68] at r; cases r) (fun r => q77 r)) (fun q => by rw [q102] at q; cases q.1))]
              rw [e9] at k
              exact k
            · refine s_aload_n hP t19_105 rfl ?_
              refine s_getfield hP t19_106 rfl rfl ?_
              refine s_if_ne hP t19_109 (fun q109 => ?_) (fun q109 => ?_)
              · refine s_bipush (v := 45) hP t19_117 (by decide) ?_
                refine s_ireturn hP t19_119 rfl rfl ?_
                have e9 : mc_tool ha (a2 1) (s2 16) (s2 17) (s2 18) (s2 10) (s2 15) = 45 := by rw [mc_tool, if_neg q6, if_neg (fun q => by rw [q39] at q; cases q.1), if_neg (fun q => q.elim (fun q => q.1.elim (fun r => by rw [q68] at r; cases r) (fun r => q77 r)) (fun q => q109 q.2))]
                rw [e9] at k
                exact k
              · refine s_bipush (v := 115) hP t19_112 (by decide) ?_
                refine s_goto hP t19_114 ?_
                refine s_ireturn hP t19_119 rfl rfl ?_
                have e9 : mc_tool ha (a2 1) (s2 16) (s2 17) (s2 18) (s2 10) (s2 15) = 115 := by rw [mc_tool, if_neg q6, if_neg (fun q => by rw [q39] at q; cases q.1), if_pos (Or.inr ⟨q102, q109⟩)]
                rw [e9] at k
                exact k
        · refine s_aload_n hP t19_80 rfl ?_
          refine s_getfield hP t19_81 rfl rfl ?_
          refine s_iconst (v := (-1)) hP t19_84 (by decide) ?_
          refine s_icmp_ne hP t19_85 (fun q85 => ?_) (fun q85 => ?_)
          · refine s_iconst (v := 0) hP t19_92 (by decide) ?_
            refine s_istore_n_1 hP t19_93 (by exact rfl) ?_
            refine s_iload_n hP t19_94 rfl ?_
            refine s_if_ne hP t19_95 (fun q95 => ?_) (fun q95 => ?_)
            · exact absurd rfl q95
            · refine s_aload_n hP t19_98 rfl ?_
              refine s_invokevirtual (bc' := 0) (bs' := 0) hP t19_99 rfl rfl rfl rfl rfl ?_
              refine sp21_2 ?_
              refine s_zeq hP t19_102 (fun q102 => ?_) (fun q102 => ?_)
              · refine s_bipush (v := 45) hP t19_117 (by decide) ?_
                refine s_ireturn hP t19_119 rfl rfl ?_
                have e9 : mc_tool ha (a2 1) (s2 16) (s2 17) (s2 18) (s2 10) (s2 15) = 45 := by rw [mc_tool, if_neg q6, if_neg (fun q => by rw [q39] at q; cases q.1), if_neg (fun q => q.elim (fun q => q85 q.2) (fun q => by rw [q102] at q; cases q.1))]
                rw [e9] at k
                exact k
              · refine s_aload_n hP t19_105 rfl ?_
                refine s_getfield hP t19_106 rfl rfl ?_
                refine s_if_ne hP t19_109 (fun q109 => ?_) (fun q109 => ?_)
                · refine s_bipush (v := 45) hP t19_117 (by decide) ?_
                  refine s_ireturn hP t19_119 rfl rfl ?_
                  have e9 : mc_tool ha (a2 1) (s2 16) (s2 17) (s2 18) (s2 10) (s2 15) = 45 := by rw [mc_tool, if_neg q6, if_neg (fun q => by rw [q39] at q; cases q.1), if_neg (fun q => q.elim (fun q => q85 q.2) (fun q => q109 q.2))]
                  rw [e9] at k
                  exact k
                · refine s_bipush (v := 115) hP t19_112 (by decide) ?_
                  refine s_goto hP t19_114 ?_
                  refine s_ireturn hP t19_119 rfl rfl ?_
                  have e9 : mc_tool ha (a2 1) (s2 16) (s2 17) (s2 18) (s2 10) (s2 15) = 115 := by rw [mc_tool, if_neg q6, if_neg (fun q => by rw [q39] at q; cases q.1), if_pos (Or.inr ⟨q102, q109⟩)]
                  rw [e9] at k
                  exact k
          · refine s_iconst (v := 1) hP t19_88 (by decide) ?_
            refine s_goto hP t19_89 ?_
            refine s_istore_n_1 hP t19_93 (by exact rfl) ?_
            refine s_iload_n hP t19_94 rfl ?_
            refine s_if_ne hP t19_95 (fun q95 => ?_) (fun q95 => ?_)
            · refine s_bipush (v := 115) hP t19_112 (by decide) ?_
              refine s_goto hP t19_114 ?_
              refine s_ireturn hP t19_119 rfl rfl ?_
              have e9 : mc_tool ha (a2 1) (s2 16) (s2 17) (s2 18) (s2 10) (s2 15) = 115 := by rw [mc_tool, if_neg q6, if_neg (fun q => by rw [q39] at q; cases q.1), if_pos (Or.inl ⟨Or.inr q77, q85⟩)]
              rw [e9] at k
              exact k
            · exact absurd rfl (show ¬ (1 : Int32) = 1 from fun _ => absurd q95 (by decide))
    · refine s_aload_n hP t19_42 rfl ?_
      refine s_getfield hP t19_43 rfl rfl ?_
      refine s_iconst (v := (-1)) hP t19_46 (by decide) ?_
      refine s_icmp_eq hP t19_47 (fun q47 => ?_) (fun q47 => ?_)
      · refine s_aload_n hP t19_64 rfl ?_
        refine s_invokevirtual (bc' := 0) (bs' := 0) hP t19_65 rfl rfl rfl rfl rfl ?_
        refine sp21_2 ?_
        refine s_zne hP t19_68 (fun q68 => ?_) (fun q68 => ?_)
        · refine s_aload_n hP t19_80 rfl ?_
          refine s_getfield hP t19_81 rfl rfl ?_
          refine s_iconst (v := (-1)) hP t19_84 (by decide) ?_
          refine s_icmp_ne hP t19_85 (fun q85 => ?_) (fun q85 => ?_)
          · refine s_iconst (v := 0) hP t19_92 (by decide) ?_
            refine s_istore_n_1 hP t19_93 (by exact rfl) ?_
            refine s_iload_n hP t19_94 rfl ?_
            refine s_if_ne hP t19_95 (fun q95 => ?_) (fun q95 => ?_)
            · exact absurd rfl q95
            · refine s_aload_n hP t19_98 rfl ?_
              refine s_invokevirtual (bc' := 0) (bs' := 0) hP t19_99 rfl rfl rfl rfl rfl ?_
              refine sp21_2 ?_
              refine s_zeq hP t19_102 (fun q102 => ?_) (fun q102 => ?_)
              · refine s_bipush (v := 45) hP t19_117 (by decide) ?_
                refine s_ireturn hP t19_119 rfl rfl ?_
                have e9 : mc_tool ha (a2 1) (s2 16) (s2 17) (s2 18) (s2 10) (s2 15) = 45 := by rw [mc_tool, if_neg q6, if_neg (fun q => q.2.1 q47), if_neg (fun q => q.elim (fun q => q85 q.2) (fun q => by rw [q102] at q; cases q.1))]
                rw [e9] at k
                exact k
              · refine s_aload_n hP t19_105 rfl ?_
                refine s_getfield hP t19_106 rfl rfl ?_
                refine s_if_ne hP t19_109 (fun q109 => ?_) (fun q109 => ?_)
                · refine s_bipush (v := 45) hP t19_117 (by decide) ?_
                  refine s_ireturn hP t19_119 rfl rfl ?_
                  have e9 : mc_tool ha (a2 1) (s2 16) (s2 17) (s2 18) (s2 10) (s2 15) = 45 := by rw [mc_tool, if_neg q6, if_neg (fun q => q.2.1 q47), if_neg (fun q => q.elim (fun q => q85 q.2) (fun q => q109 q.2))]
                  rw [e9] at k
                  exact k
                · refine s_bipush (v := 115) hP t19_112 (by decide) ?_
                  refine s_goto hP t19_114 ?_
                  refine s_ireturn hP t19_119 rfl rfl ?_
                  have e9 : mc_tool ha (a2 1) (s2 16) (s2 17) (s2 18) (s2 10) (s2 15) = 115 := by rw [mc_tool, if_neg q6, if_neg (fun q => q.2.1 q47), if_pos (Or.inr ⟨q102, q109⟩)]
                  rw [e9] at k
                  exact k
          · refine s_iconst (v := 1) hP t19_88 (by decide) ?_
            refine s_goto hP t19_89 ?_
            refine s_istore_n_1 hP t19_93 (by exact rfl) ?_
            refine s_iload_n hP t19_94 rfl ?_
            refine s_if_ne hP t19_95 (fun q95 => ?_) (fun q95 => ?_)
            · refine s_bipush (v := 115) hP t19_112 (by decide) ?_
              refine s_goto hP t19_114 ?_
              refine s_ireturn hP t19_119 rfl rfl ?_
              have e9 : mc_tool ha (a2 1) (s2 16) (s2 17) (s2 18) (s2 10) (s2 15) = 115 := by rw [mc_tool, if_neg q6, if_neg (fun q => q.2.1 q47), if_pos (Or.inl ⟨Or.inl (q68), q85⟩)]
              rw [e9] at k
              exact k
            · exact absurd rfl (show ¬ (1 : Int32) = 1 from fun _ => absurd q95 (by decide))
        · refine s_aload_n hP t19_71 rfl ?_
          refine s_getfield hP t19_72 rfl rfl ?_
          refine s_bipush (v := 120) hP t19_75 (by decide) ?_
          refine s_icmp_ne hP t19_77 (fun q77 => ?_) (fun q77 => ?_)
          · refine s_iconst (v := 0) hP t19_92 (by decide) ?_
            refine s_istore_n_1 hP t19_93 (by exact rfl) ?_
            refine s_iload_n hP t19_94 rfl ?_
            refine s_if_ne hP t19_95 (fun q95 => ?_) (fun q95 => ?_)
            · exact absurd rfl q95
            · refine s_aload_n hP t19_98 rfl ?_
              refine s_invokevirtual (bc' := 0) (bs' := 0) hP t19_99 rfl rfl rfl rfl rfl ?_
              refine sp21_2 ?_
              refine s_zeq hP t19_102 (fun q102 => ?_) (fun q102 => ?_)
              · refine s_bipush (v := 45) hP t19_117 (by decide) ?_
                refine s_ireturn hP t19_119 rfl rfl ?_
                have e9 : mc_tool ha (a2 1) (s2 16) (s2 17) (s2 18) (s2 10) (s2 15) = 45 := by rw [mc_tool, if_neg q6, if_neg (fun q => q.2.1 q47), if_neg (fun q => q.elim (fun q => q.1.elim (fun r => by rw [q68] at r; cases r) (fun r => q77 r)) (fun q => by rw [q102] at q; cases q.1))]
                rw [e9] at k
                exact k
              · refine s_aload_n hP t19_105 rfl ?_
                refine s_getfield hP t19_106 rfl rfl ?_
                refine s_if_ne hP t19_109 (fun q109 => ?_) (fun q109 => ?_)
                · refine s_bipush (v := 45) hP t19_117 (by decide) ?_
                  refine s_ireturn hP t19_119 rfl rfl ?_
                  have e9 : mc_tool ha (a2 1) (s2 16) (s2 17) (s2 18) (s2 10) (s2 15) = 45 := by rw [mc_tool, if_neg q6, if_neg (fun q => q.2.1 q47), if_neg (fun q => q.elim (fun q => q.1.elim (fun r => by rw [q68] at r; cases r) (fun r => q77 r)) (fun q => q109 q.2))]
                  rw [e9] at k
                  exact k
                · refine s_bipush (v := 115) hP t19_112 (by decide) ?_
                  refine s_goto hP t19_114 ?_
                  refine s_ireturn hP t19_119 rfl rfl ?_
                  have e9 : mc_tool ha (a2 1) (s2 16) (s2 17) (s2 18) (s2 10) (s2 15) = 115 := by rw [mc_tool, if_neg q6, if_neg (fun q => q.2.1 q47), if_pos (Or.inr ⟨q102, q109⟩)]
                  rw [e9] at k
                  exact k
          · refine s_aload_n hP t19_80 rfl ?_
            refine s_getfield hP t19_81 rfl rfl ?_
            refine s_iconst (v := (-1)) hP t19_84 (by decide) ?_
            refine s_icmp_ne hP t19_85 (fun q85 => ?_) (fun q85 => ?_)
            · refine s_iconst (v := 0) hP t19_92 (by decide) ?_
              refine s_istore_n_1 hP t19_93 (by exact rfl) ?_
              refine s_iload_n hP t19_94 rfl ?_
              refine s_if_ne hP t19_95 (fun q95 => ?_) (fun q95 => ?_)
              · exact absurd rfl q95
              · refine s_aload_n hP t19_98 rfl ?_
                refine s_invokevirtual (bc' := 0) (bs' := 0) hP t19_99 rfl rfl rfl rfl rfl ?_
                refine sp21_2 ?_
                refine s_zeq hP t19_102 (fun q102 => ?_) (fun q102 => ?_)
                · refine s_bipush (v := 45) hP t19_117 (by decide) ?_
                  refine s_ireturn hP t19_119 rfl rfl ?_
                  have e9 : mc_tool ha (a2 1) (s2 16) (s2 17) (s2 18) (s2 10) (s2 15) = 45 := by rw [mc_tool, if_neg q6, if_neg (fun q => q.2.1 q47), if_neg (fun q => q.elim (fun q => q85 q.2) (fun q => by rw [q102] at q; cases q.1))]
                  rw [e9] at k
                  exact k
                · refine s_aload_n hP t19_105 rfl ?_
                  refine s_getfield hP t19_106 rfl rfl ?_
                  refine s_if_ne hP t19_109 (fun q109 => ?_) (fun q109 => ?_)
                  · refine s_bipush (v := 45) hP t19_117 (by decide) ?_
                    refine s_ireturn hP t19_119 rfl rfl ?_
                    have e9 : mc_tool ha (a2 1) (s2 16) (s2 17) (s2 18) (s2 10) (s2 15) = 45 := by rw [mc_tool, if_neg q6, if_neg (fun q => q.2.1 q47), if_neg (fun q => q.elim (fun q => q85 q.2) (fun q => q109 q.2))]
                    rw [e9] at k
                    exact k
                  · refine s_bipush (v := 115) hP t19_112 (by decide) ?_
                    refine s_goto hP t19_114 ?_
                    refine s_ireturn hP t19_119 rfl rfl ?_
                    have e9 : mc_tool ha (a2 1) (s2 16) (s2 17) (s2 18) (s2 10) (s2 15) = 115 := by rw [mc_tool, if_neg q6, if_neg (fun q => q.2.1 q47), if_pos (Or.inr ⟨q102, q109⟩)]
                    rw [e9] at k
                    exact k
            · refine s_iconst (v := 1) hP t19_88 (by decide) ?_
              refine s_goto hP t19_89 ?_
              refine s_istore_n_1 hP t19_93 (by exact rfl) ?_
              refine s_iload_n hP t19_94 rfl ?_
              refine s_if_ne hP t19_95 (fun q95 => ?_) (fun q95 => ?_)
              · refine s_bipush (v := 115) hP t19_112 (by decide) ?_
                refine s_goto hP t19_114 ?_
                refine s_ireturn hP t19_119 rfl rfl ?_
                have e9 : mc_tool ha (a2 1) (s2 16) (s2 17) (s2 18) (s2 10) (s2 15) = 115 := by rw [mc_tool, if_neg q6, if_neg (fun q => q.2.1 q47), if_pos (Or.inl ⟨Or.inr q77, q85⟩)]
                rw [e9] at k
                exact k
              · exact absurd rfl (show ¬ (1 : Int32) = 1 from fun _ => absurd q95 (by decide))
      · refine s_aload_n hP t19_50 rfl ?_
        refine s_aload_n hP t19_51 rfl ?_
        refine s_getfield hP t19_52 rfl rfl ?_
        refine s_invokevirtual (bc' := 0) (bs' := 0) hP t19_55 rfl rfl rfl rfl rfl ?_
        refine sp22_2 ?_
        refine s_zeq hP t19_58 (fun q58 => ?_) (fun q58 => ?_)
        · refine s_aload_n hP t19_64 rfl ?_
          refine s_invokevirtual (bc' := 0) (bs' := 0) hP t19_65 rfl rfl rfl rfl rfl ?_
          refine sp21_2 ?_
          refine s_zne hP t19_68 (fun q68 => ?_) (fun q68 => ?_)
          · refine s_aload_n hP t19_80 rfl ?_
            refine s_getfield hP t19_81 rfl rfl ?_
            refine s_iconst (v := (-1)) hP t19_84 (by decide) ?_
            refine s_icmp_ne hP t19_85 (fun q85 => ?_) (fun q85 => ?_)
            · refine s_iconst (v := 0) hP t19_92 (by decide) ?_
              refine s_istore_n_1 hP t19_93 (by exact rfl) ?_
              refine s_iload_n hP t19_94 rfl ?_
              refine s_if_ne hP t19_95 (fun q95 => ?_) (fun q95 => ?_)
              · exact absurd rfl q95
              · refine s_aload_n hP t19_98 rfl ?_
                refine s_invokevirtual (bc' := 0) (bs' := 0) hP t19_99 rfl rfl rfl rfl rfl ?_
                refine sp21_2 ?_
                refine s_zeq hP t19_102 (fun q102 => ?_) (fun q102 => ?_)
                · refine s_bipush (v := 45) hP t19_117 (by decide) ?_
                  refine s_ireturn hP t19_119 rfl rfl ?_
                  have e9 : mc_tool ha (a2 1) (s2 16) (s2 17) (s2 18) (s2 10) (s2 15) = 45 := by rw [mc_tool, if_neg q6, if_neg (fun q => by rw [q58] at q; cases q.2.2), if_neg (fun q => q.elim (fun q => q85 q.2) (fun q => by rw [q102] at q; cases q.1))]
                  rw [e9] at k
                  exact k
                · refine s_aload_n hP t19_105 rfl ?_
                  refine s_getfield hP t19_106 rfl rfl ?_
                  refine s_if_ne hP t19_109 (fun q109 => ?_) (fun q109 => ?_)
                  · refine s_bipush (v := 45) hP t19_117 (by decide) ?_
                    refine s_ireturn hP t19_119 rfl rfl ?_
                    have e9 : mc_tool ha (a2 1) (s2 16) (s2 17) (s2 18) (s2 10) (s2 15) = 45 := by rw [mc_tool, if_neg q6, if_neg (fun q => by rw [q58] at q; cases q.2.2), if_neg (fun q => q.elim (fun q => q85 q.2) (fun q => q109 q.2))]
                    rw [e9] at k
                    exact k
                  · refine s_bipush (v := 115) hP t19_112 (by decide) ?_
                    refine s_goto hP t19_114 ?_
                    refine s_ireturn hP t19_119 rfl rfl ?_
                    have e9 : mc_tool ha (a2 1) (s2 16) (s2 17) (s2 18) (s2 10) (s2 15) = 115 := by rw [mc_tool, if_neg q6, if_neg (fun q => by rw [q58] at q; cases q.2.2), if_pos (Or.inr ⟨q102, q109⟩)]
                    rw [e9] at k
                    exact k
            · refine s_iconst (v := 1) hP t19_88 (by decide) ?_
              refine s_goto hP t19_89 ?_
              refine s_istore_n_1 hP t19_93 (by exact rfl) ?_
              refine s_iload_n hP t19_94 rfl ?_
              refine s_if_ne hP t19_95 (fun q95 => ?_) (fun q95 => ?_)
              · refine s_bipush (v := 115) hP t19_112 (by decide) ?_
                refine s_goto hP t19_114 ?_
                refine s_ireturn hP t19_119 rfl rfl ?_
                have e9 : mc_tool ha (a2 1) (s2 16) (s2 17) (s2 18) (s2 10) (s2 15) = 115 := by rw [mc_tool, if_neg q6, if_neg (fun q => by rw [q58] at q; cases q.2.2), if_pos (Or.inl ⟨Or.inl (q68), q85⟩)]
                rw [e9] at k
                exact k
              · exact absurd rfl (show ¬ (1 : Int32) = 1 from fun _ => absurd q95 (by decide))
          · refine s_aload_n hP t19_71 rfl ?_
            refine s_getfield hP t19_72 rfl rfl ?_
            refine s_bipush (v := 120) hP t19_75 (by decide) ?_
            refine s_icmp_ne hP t19_77 (fun q77 => ?_) (fun q77 => ?_)
            · refine s_iconst (v := 0) hP t19_92 (by decide) ?_
              refine s_istore_n_1 hP t19_93 (by exact rfl) ?_
              refine s_iload_n hP t19_94 rfl ?_
              refine s_if_ne hP t19_95 (fun q95 => ?_) (fun q95 => ?_)
              · exact absurd rfl q95
              · refine s_aload_n hP t19_98 rfl ?_
                refine s_invokevirtual (bc' := 0) (bs' := 0) hP t19_99 rfl rfl rfl rfl rfl ?_
                refine sp21_2 ?_
                refine s_zeq hP t19_102 (fun q102 => ?_) (fun q102 => ?_)
                · refine s_bipush (v := 45) hP t19_117 (by decide) ?_
                  refine s_ireturn hP t19_119 rfl rfl ?_
                  have e9 : mc_tool ha (a2 1) (s2 16) (s2 17) (s2 18) (s2 10) (s2 15) = 45 := by rw [mc_tool, if_neg q6, if_neg (fun q => by rw [q58] at q; cases q.2.2), if_neg (fun q => q.elim (fun q => q.1.elim (fun r => by rw [q68] at r; cases r) (fun r => q77 r)) (fun q => by rw [q102] at q; cases q.1))]
                  rw [e9] at k
                  exact k
                · refine s_aload_n hP t19_105 rfl ?_
                  refine s_getfield hP t19_106 rfl rfl ?_
                  refine s_if_ne hP t19_109 (fun q109 => ?_) (fun q109 => ?_)
                  · refine s_bipush (v := 45) hP t19_117 (by decide) ?_
                    refine s_ireturn hP t19_119 rfl rfl ?_
                    have e9 : mc_tool ha (a2 1) (s2 16) (s2 17) (s2 18) (s2 10) (s2 15) = 45 := by rw [mc_tool, if_neg q6, if_neg (fun q => by rw [q58] at q; cases q.2.2), if_neg (fun q => q.elim (fun q => q.1.elim (fun r => by rw [q68] at r; cases r) (fun r => q77 r)) (fun q => q109 q.2))]
                    rw [e9] at k
                    exact k
                  · refine s_bipush (v := 115) hP t19_112 (by decide) ?_
                    refine s_goto hP t19_114 ?_
                    refine s_ireturn hP t19_119 rfl rfl ?_
                    have e9 : mc_tool ha (a2 1) (s2 16) (s2 17) (s2 18) (s2 10) (s2 15) = 115 := by rw [mc_tool, if_neg q6, if_neg (fun q => by rw [q58] at q; cases q.2.2), if_pos (Or.inr ⟨q102, q109⟩)]
                    rw [e9] at k
                    exact k
            · refine s_aload_n hP t19_80 rfl ?_
              refine s_getfield hP t19_81 rfl rfl ?_
              refine s_iconst (v := (-1)) hP t19_84 (by decide) ?_
              refine s_icmp_ne hP t19_85 (fun q85 => ?_) (fun q85 => ?_)
              · refine s_iconst (v := 0) hP t19_92 (by decide) ?_
                refine s_istore_n_1 hP t19_93 (by exact rfl) ?_
                refine s_iload_n hP t19_94 rfl ?_
                refine s_if_ne hP t19_95 (fun q95 => ?_) (fun q95 => ?_)
                · exact absurd rfl q95
                · refine s_aload_n hP t19_98 rfl ?_
                  refine s_invokevirtual (bc' := 0) (bs' := 0) hP t19_99 rfl rfl rfl rfl rfl ?_
                  refine sp21_2 ?_
                  refine s_zeq hP t19_102 (fun q102 => ?_) (fun q102 => ?_)
                  · refine s_bipush (v := 45) hP t19_117 (by decide) ?_
                    refine s_ireturn hP t19_119 rfl rfl ?_
                    have e9 : mc_tool ha (a2 1) (s2 16) (s2 17) (s2 18) (s2 10) (s2 15) = 45 := by rw [mc_tool, if_neg q6, if_neg (fun q => by rw [q58] at q; cases q.2.2), if_neg (fun q => q.elim (fun q => q85 q.2) (fun q => by rw [q102] at q; cases q.1))]
                    rw [e9] at k
                    exact k
                  · refine s_aload_n hP t19_105 rfl ?_
                    refine s_getfield hP t19_106 rfl rfl ?_
                    refine s_if_ne hP t19_109 (fun q109 => ?_) (fun q109 => ?_)
                    · refine s_bipush (v := 45) hP t19_117 (by decide) ?_
                      refine s_ireturn hP t19_119 rfl rfl ?_
                      have e9 : mc_tool ha (a2 1) (s2 16) (s2 17) (s2 18) (s2 10) (s2 15) = 45 := by rw [mc_tool, if_neg q6, if_neg (fun q => by rw [q58] at q; cases q.2.2), if_neg (fun q => q.elim (fun q => q85 q.2) (fun q => q109 q.2))]
                      rw [e9] at k
                      exact k
                    · refine s_bipush (v := 115) hP t19_112 (by decide) ?_
                      refine s_goto hP t19_114 ?_
                      refine s_ireturn hP t19_119 rfl rfl ?_
                      have e9 : mc_tool ha (a2 1) (s2 16) (s2 17) (s2 18) (s2 10) (s2 15) = 115 := by rw [mc_tool, if_neg q6, if_neg (fun q => by rw [q58] at q; cases q.2.2), if_pos (Or.inr ⟨q102, q109⟩)]
                      rw [e9] at k
                      exact k
              · refine s_iconst (v := 1) hP t19_88 (by decide) ?_
                refine s_goto hP t19_89 ?_
                refine s_istore_n_1 hP t19_93 (by exact rfl) ?_
                refine s_iload_n hP t19_94 rfl ?_
                refine s_if_ne hP t19_95 (fun q95 => ?_) (fun q95 => ?_)
                · refine s_bipush (v := 115) hP t19_112 (by decide) ?_
                  refine s_goto hP t19_114 ?_
                  refine s_ireturn hP t19_119 rfl rfl ?_
                  have e9 : mc_tool ha (a2 1) (s2 16) (s2 17) (s2 18) (s2 10) (s2 15) = 115 := by rw [mc_tool, if_neg q6, if_neg (fun q => by rw [q58] at q; cases q.2.2), if_pos (Or.inl ⟨Or.inr q77, q85⟩)]
                  rw [e9] at k
                  exact k
                · exact absurd rfl (show ¬ (1 : Int32) = 1 from fun _ => absurd q95 (by decide))
        · refine s_bipush (v := 119) hP t19_61 (by decide) ?_
          refine s_ireturn hP t19_63 rfl rfl ?_
          have e9 : mc_tool ha (a2 1) (s2 16) (s2 17) (s2 18) (s2 10) (s2 15) = 119 := by rw [mc_tool, if_neg q6, if_pos ⟨q39, q47, q58⟩]
          rw [e9] at k
          exact k
  · refine s_aload_n hP t19_9 rfl ?_
    refine s_getfield hP t19_10 rfl rfl ?_
    refine s_if_eq hP t19_13 (fun q13 => ?_) (fun q13 => ?_)
    · refine s_aload_n hP t19_19 rfl ?_
      refine s_invokevirtual (bc' := 0) (bs' := 0) hP t19_20 rfl rfl rfl rfl rfl ?_
      obtain ⟨A, B, hA, hB, hA3, hB4⟩ := h116 q6
      refine sp23_2 (A := A) (B := B) hA hB hA3 hB4 ?_
      refine s_iconst (v := (-1)) hP t19_23 (by decide) ?_
      refine s_icmp_ne hP t19_24 (fun q24 => ?_) (fun q24 => ?_)
      · refine s_bipush (v := 45) hP t19_32 (by decide) ?_
        refine s_ireturn hP t19_34 rfl rfl ?_
        have e9 : mc_tool ha (a2 1) (s2 16) (s2 17) (s2 18) (s2 10) (s2 15) = 45 := by rw [mc_tool, if_pos q6, if_neg (fun q => q q13), hA, hB, nI_clamp (by omega), nI_clamp (by omega), if_neg q24]
        rw [e9] at k
        exact k
      · refine s_bipush (v := 119) hP t19_27 (by decide) ?_
        refine s_goto hP t19_29 ?_
        refine s_ireturn hP t19_34 rfl rfl ?_
        have e9 : mc_tool ha (a2 1) (s2 16) (s2 17) (s2 18) (s2 10) (s2 15) = 119 := by rw [mc_tool, if_pos q6, if_neg (fun q => q q13), hA, hB, nI_clamp (by omega), nI_clamp (by omega), if_pos q24]
        rw [e9] at k
        exact k
    · refine s_bipush (v := 116) hP t19_16 (by decide) ?_
      refine s_ireturn hP t19_18 rfl rfl ?_
      have e9 : mc_tool ha (a2 1) (s2 16) (s2 17) (s2 18) (s2 10) (s2 15) = 116 := by rw [mc_tool, if_pos q6, if_pos q13]
      rw [e9] at k
      exact k
