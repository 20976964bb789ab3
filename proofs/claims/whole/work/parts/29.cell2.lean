/-! CELLS: the rest. (rows by gen/sp6.py) -/
set_option maxHeartbeats 1000000 in
theorem sp4 {d : Nat} {K : am_K} {h : am_H} {a b : Nat} {f : Nat → Int32} {S : Nat → Bool} (h1 : am_nth h a = some (.inr (0, [.ref b]))) (g1 : am_get am_ro h b = some (.inl (0, 72, .inl f))) (hf : ∀ j, j < 72 → f j = mr_w (fun x => S (16 * j + x))) (k : K (some (.int (nI (mr_cnt 1152 S)))) h) : am_Run (d + 2) 4 [.ref a] h K := by
  refine ⟨rfl, fun P hm hP => ?_⟩
  show P 0 [some (.ref a), none, none] [] _ 0 0
  have loop : ∀ (n i : Nat), i ≤ 72 → 72 + 1 ≤ i + n → P 4 [some (.ref a), some (.int (nI (mr_cnt (16 * i) S))), some (.int (nI i))] [] h 0 0 := by
    intro n
    induction n with
    | zero => intro i h3 h4; omega
    | succ n ih =>
      intro i h3 h4
      refine s_iload_n hP t4_4 rfl ?_
      refine s_aload_n hP t4_5 rfl ?_
      refine s_getfield hP t4_6 h1 rfl ?_
      refine s_arraylength hP t4_9 g1 rfl ?_
      refine s_icmp_ge hP t4_10 (fun q10 => ?_) (fun q10 => ?_)
      · have e9 : 72 ≤ i := mi_leN (by decide) (by omega) q10
        refine s_iload_n hP t4_31 rfl ?_
        refine s_ireturn hP t4_32 rfl rfl ?_
        obtain rfl : i = 72 := by omega
        exact k
      · have e9 : i < 72 := mi_nleN (a := 72) (by decide) (by omega) q10
        refine s_iload_n hP t4_13 rfl ?_
        refine s_aload_n hP t4_14 rfl ?_
        refine s_getfield hP t4_15 h1 rfl ?_
        refine s_iload_n hP t4_18 rfl ?_
        refine s_iaload hP t4_19 g1 (vp_in_nI e9 (by decide)) ?_
        rw [nI_clamp (by omega), hf _ e9]
        refine s_invokestatic (bc' := 0) (bs' := 0) hP t4_20 rfl rfl rfl rfl rfl ?_
        refine sp157 ?_
        rw [mr_bc]
        refine s_iadd hP t4_23 ?_
        rw [nI_add, show mr_cnt (16 * i) S + mr_cnt 16 (fun x => S (16 * i + x)) = mr_cnt (16 * (i + 1)) S by rw [show 16 * (i + 1) = 16 * i + 16 by omega, mr_cnt_add]]
        refine s_istore_n_1 hP t4_24 (by exact rfl) ?_
        refine s_iinc_2 (v := 1) hP t4_25 (by decide) (by exact rfl) ?_
        refine s_goto hP t4_28 ?_
        rw [nI_1]
        exact ih (i + 1) (by omega) (by omega)
  refine s_iconst (v := 0) hP t4_0 (by decide) ?_
  refine s_istore_n_1 hP t4_1 (by exact rfl) ?_
  refine s_iconst (v := 0) hP t4_2 (by decide) ?_
  refine s_istore_n_2 hP t4_3 (by exact rfl) ?_
  exact loop 73 0 (by omega) (by omega)
set_option maxHeartbeats 1000000 in
theorem sp7 {d : Nat} {K : am_K} {h : am_H} {a b a2 b2 : Nat} {f f2 : Nat → Int32} {S T : Nat → Bool} (h1 : am_nth h a = some (.inr (0, [.ref b]))) (g1 : am_get am_ro h b = some (.inl (0, 72, .inl f))) (hf : ∀ j, j < 72 → f j = mr_w (fun x => S (16 * j + x))) (h2 : am_nth h a2 = some (.inr (0, [.ref b2]))) (g2 : am_get am_ro h b2 = some (.inl (0, 72, .inl f2))) (hf2 : ∀ j, j < 72 → f2 j = mr_w (fun x => T (16 * j + x))) (k : ∀ v : Bool, (v = true ↔ ∀ q, q < 1152 → T q = true → S q = true) → K (some (.int (am_b v))) h) : am_Run (d + 1) 7 [.ref a, .ref a2] h K := by
  refine ⟨rfl, fun P hm hP => ?_⟩
  show P 0 [some (.ref a), some (.ref a2), none] [] _ 0 0
  have loop : ∀ (n i : Nat), i ≤ 72 → 72 + 1 ≤ i + n → (∀ q, q < 16 * i → T q = true → S q = true) → P 2 [some (.ref a), some (.ref a2), some (.int (nI i))] [] h 0 0 := by
    intro n
    induction n with
    | zero => intro i h3 h4; omega
    | succ n ih =>
      intro i h3 h4 hi
      refine s_iload_n hP t7_2 rfl ?_
      refine s_aload_n hP t7_3 rfl ?_
      refine s_getfield hP t7_4 h1 rfl ?_
      refine s_arraylength hP t7_7 g1 rfl ?_
      refine s_icmp_ge hP t7_8 (fun q8 => ?_) (fun q8 => ?_)
      · have e9 : 72 ≤ i := mi_leN (by decide) (by omega) q8
        refine s_iconst (v := 1) hP t7_37 (by decide) ?_
        refine s_ireturn hP t7_38 rfl rfl ?_
        obtain rfl : i = 72 := by omega
        exact k true ⟨fun _ => hi, fun _ => rfl⟩
      · have e9 : i < 72 := mi_nleN (a := 72) (by decide) (by omega) q8
        refine s_aload_n hP t7_11 rfl ?_
        refine s_getfield hP t7_12 h2 rfl ?_
        refine s_iload_n hP t7_15 rfl ?_
        refine s_iaload hP t7_16 g2 (vp_in_nI e9 (by decide)) ?_
        rw [nI_clamp (by omega), hf2 _ e9]
        refine s_aload_n hP t7_17 rfl ?_
        refine s_getfield hP t7_18 h1 rfl ?_
        refine s_iload_n hP t7_21 rfl ?_
        refine s_iaload hP t7_22 g1 (vp_in_nI e9 (by decide)) ?_
        rw [nI_clamp (by omega), hf _ e9]
        refine s_iconst (v := (-1)) hP t7_23 (by decide) ?_
        refine s_ixor hP t7_24 ?_
        refine s_iand hP t7_25 ?_
        refine s_if_eq hP t7_26 (fun q26 => ?_) (fun q26 => ?_)
        · have e26 := mr_less.mp q26
          refine s_iinc_2 (v := 1) hP t7_31 (by decide) (by exact rfl) ?_
          refine s_goto hP t7_34 ?_
          rw [nI_1]
          exact ih (i + 1) (by omega) (by omega) (fun q hq ht => by
            by_cases hlt : q < 16 * i
            · exact hi q hlt ht
            · have := e26 (q - 16 * i) (by omega)
              rw [show 16 * i + (q - 16 * i) = q by omega] at this
              exact this ht)
        · have e26 : ¬ ∀ x, x < 16 → T (16 * i + x) = true → S (16 * i + x) = true := fun q => q26 (mr_less.mpr q)
          refine s_iconst (v := 0) hP t7_29 (by decide) ?_
          refine s_ireturn hP t7_30 rfl rfl ?_
          exact k false ⟨fun q => (by cases q), fun q => absurd (fun x hx ht => q (16 * i + x) (by omega) ht) e26⟩
  refine s_iconst (v := 0) hP t7_0 (by decide) ?_
  refine s_istore_n_2 hP t7_1 (by exact rfl) ?_
  exact loop 73 0 (by omega) (by omega) (fun q hq => by omega)
set_option maxHeartbeats 1000000 in
theorem sp6 {d : Nat} {K : am_K} {h : am_H} {a b a2 b2 : Nat} {f f2 : Nat → Int32} {S T : Nat → Bool} (h1 : am_nth h a = some (.inr (0, [.ref b]))) (g1 : am_get am_ro h b = some (.inl (0, 72, .inl f))) (hf : ∀ j, j < 72 → f j = mr_w (fun x => S (16 * j + x))) (h2 : am_nth h a2 = some (.inr (0, [.ref b2]))) (g2 : am_get am_ro h b2 = some (.inl (0, 72, .inl f2))) (hf2 : ∀ j, j < 72 → f2 j = mr_w (fun x => T (16 * j + x))) (k : ∀ v : Bool, (v = true ↔ ∀ q, q < 1152 → S q = T q) → K (some (.int (am_b v))) h) : am_Run (d + 2) 6 [.ref a, .ref a2] h K := by
  refine ⟨rfl, fun P hm hP => ?_⟩
  show P 0 [some (.ref a), some (.ref a2)] [] _ 0 0
  refine s_aload_n hP t6_0 rfl ?_
  refine s_aload_n hP t6_1 rfl ?_
  refine s_invokevirtual (bc' := 0) (bs' := 0) hP t6_2 rfl h1 rfl rfl rfl ?_
  refine sp7 h1 g1 hf h2 g2 hf2 (fun v1 w1 => ?_)
  refine s_zeq hP t6_5 (fun q5 => ?_) (fun q5 => ?_)
  · refine s_iconst (v := 0) hP t6_20 (by decide) ?_
    refine s_ireturn hP t6_21 rfl rfl ?_
    exact k false ⟨fun q => (by cases q), fun q => by
      rw [show v1 = true from w1.mpr (fun x hx ht => by rw [q x hx]; exact ht)] at q5; cases q5⟩
  · refine s_aload_n hP t6_8 rfl ?_
    refine s_aload_n hP t6_9 rfl ?_
    refine s_invokevirtual (bc' := 0) (bs' := 0) hP t6_10 rfl h2 rfl rfl rfl ?_
    refine sp7 h2 g2 hf2 h1 g1 hf (fun v2 w2 => ?_)
    refine s_zeq hP t6_13 (fun q13 => ?_) (fun q13 => ?_)
    · refine s_iconst (v := 0) hP t6_20 (by decide) ?_
      refine s_ireturn hP t6_21 rfl rfl ?_
      exact k false ⟨fun q => (by cases q), fun q => by
        rw [show v2 = true from w2.mpr (fun x hx ht => by rw [← q x hx]; exact ht)] at q13; cases q13⟩
    · refine s_iconst (v := 1) hP t6_16 (by decide) ?_
      refine s_goto hP t6_17 ?_
      refine s_ireturn hP t6_21 rfl rfl ?_
      exact k true ⟨fun _ => fun x hx => by
        have e1 := w1.mp q5 x hx
        have e2 := w2.mp q13 x hx
        cases hs : S x <;> cases ht : T x <;> simp_all, fun _ => rfl⟩
set_option maxHeartbeats 1000000 in
theorem sp1 {d : Nat} {K : am_K} {h : am_H} {a b : Nat} {f : Nat → Int32} (h1 : am_nth h a = some (.inr (0, [.ref b]))) (g1 : am_nth h b = some (.inl (0, 72, .inl f))) (hb : Nat.blt b 1000 = true) (hba : b ≠ a) (k : ∀ g : Nat → Int32, (∀ j, j < 72 → g j = 65535) → K none (am_upd h b (.inl (0, 72, .inl g)))) : am_Run (d + 1) 1 [.ref a] h K := by
  refine ⟨rfl, fun P hm hP => ?_⟩
  show P 0 [some (.ref a), none] [] _ 0 0
  rw [show h = am_upd h b (.inl (0, 72, .inl f)) from (am_upd_self g1).symm]
  have loop : ∀ (n i : Nat) (g : Nat → Int32), i ≤ 72 → 72 + 1 ≤ i + n → (∀ j, j < i → g j = 65535) → P 2 [some (.ref a), some (.int (nI i))] [] (am_upd h b (.inl (0, 72, .inl g))) 0 0 := by
    intro n
    induction n with
    | zero => intro i g h3 h4; omega
    | succ n ih =>
      intro i g h3 h4 hi
      refine s_iload_n hP t1_2 rfl ?_
      refine s_aload_n hP t1_3 rfl ?_
      refine s_getfield hP t1_4 ((am_nth_ne hba).trans h1) rfl ?_
      refine s_arraylength hP t1_7 (am_getu hb g1) rfl ?_
      refine s_icmp_ge hP t1_8 (fun q8 => ?_) (fun q8 => ?_)
      · have e9 : 72 ≤ i := mi_leN (by decide) (by omega) q8
        refine s_return_ hP t1_25 rfl ?_
        obtain rfl : i = 72 := by omega
        exact k g hi
      · have e9 : i < 72 := mi_nleN (a := 72) (by decide) (by omega) q8
        refine s_aload_n hP t1_11 rfl ?_
        refine s_getfield hP t1_12 ((am_nth_ne hba).trans h1) rfl ?_
        refine s_iload_n hP t1_15 rfl ?_
        refine s_ldc (v := 65535) hP t1_16 (by decide) ?_
        refine s_iastore hP t1_18 (am_nth_self g1) (vp_in_nI e9 (by decide)) ?_
        rw [nI_clamp (by omega), am_upd_upd]
        refine s_iinc_1 (v := 1) hP t1_19 (by decide) (by exact rfl) ?_
        refine s_goto hP t1_22 ?_
        rw [nI_1]
        refine ih (i + 1) _ (by omega) (by omega) (fun j hj => ?_)
        by_cases hji : j = i
        · rw [hji]; exact pk_us
        · rw [show upd g i _ j = g j from pk_un hji]; exact hi j (by omega)
  refine s_iconst (v := 0) hP t1_0 (by decide) ?_
  refine s_istore_n_1 hP t1_1 (by exact rfl) ?_
  exact loop 73 0 f (by omega) (by omega) (fun j hj => by omega)
set_option maxHeartbeats 1000000 in
theorem sp2 {d : Nat} {K : am_K} {h : am_H} {a b : Nat} {f : Nat → Int32} {S : Nat → Bool} (h1 : am_nth h a = some (.inr (0, [.ref b]))) (g1 : am_get am_ro h b = some (.inl (0, 72, .inl f))) (hf : ∀ j, j < 72 → f j = mr_w (fun x => S (16 * j + x))) {x y z : Int32} (kin : ∀ X Y Z, X < 16 → Y < 12 → Z < 6 → x = nI X → y = nI Y → z = nI Z → K (some (.int (am_b (S (X + 16 * Y + 192 * Z))))) h) (kout : mi_cell x y z = false → K (some (.int 0)) h) : am_Run (d + 3) 2 [.ref a, .int x, .int y, .int z] h K := by
  refine ⟨rfl, fun P hm hP => ?_⟩
  show P 0 [some (.ref a), some (.int x), some (.int y), some (.int z)] [] _ 0 0
  refine s_iload_n hP t2_0 rfl ?_
  refine s_iload_n hP t2_1 rfl ?_
  refine s_iload_n hP t2_2 rfl ?_
  refine s_invokestatic (bc' := 0) (bs' := 0) hP t2_3 rfl rfl rfl rfl rfl ?_
  refine sp85 ?_
  refine s_zeq hP t2_6 (fun q6 => ?_) (fun q6 => ?_)
  · refine s_iconst (v := 0) hP t2_31 (by decide) ?_
    refine s_ireturn hP t2_32 rfl rfl ?_
    exact kout q6
  · obtain ⟨X, Y, Z, hX, hY, hZ, rfl, rfl, rfl⟩ := mi_cell_nI q6
    refine s_aload_n hP t2_9 rfl ?_
    refine s_getfield hP t2_10 h1 rfl ?_
    refine s_iload_n hP t2_13 rfl ?_
    refine s_bipush (v := 12) hP t2_14 (by decide) ?_
    refine s_imul hP t2_16 ?_
    refine s_iload_n hP t2_17 rfl ?_
    refine s_iadd hP t2_18 ?_
    refine s_iaload hP t2_19 g1 (by rw [mr_idx]; exact vp_in_nI (by omega) (by decide)) ?_
    rw [mr_idx, nI_clamp (by omega), hf _ (by omega)]
    refine s_iconst (v := 1) hP t2_20 (by decide) ?_
    refine s_iload_n hP t2_21 rfl ?_
    refine s_ishl hP t2_22 ?_
    refine s_iand hP t2_23 ?_
    refine s_if_eq hP t2_24 (fun q24 => ?_) (fun q24 => ?_)
    · refine s_iconst (v := 0) hP t2_31 (by decide) ?_
      refine s_ireturn hP t2_32 rfl rfl ?_
      have e24 : S (X + 16 * Y + 192 * Z) = false := by
        rw [show X + 16 * Y + 192 * Z = 16 * (12 * Z + Y) + X by omega]
        exact (mr_bit (p := fun x => S (16 * (12 * Z + Y) + x)) hX).mp q24
      have k9 := kin X Y Z hX hY hZ rfl rfl rfl
      rw [e24] at k9
      exact k9
    · refine s_iconst (v := 1) hP t2_27 (by decide) ?_
      refine s_goto hP t2_28 ?_
      refine s_ireturn hP t2_32 rfl rfl ?_
      have e24 : S (X + 16 * Y + 192 * Z) = true := by
        rw [show X + 16 * Y + 192 * Z = 16 * (12 * Z + Y) + X by omega]
        exact (Bool.not_eq_false _).mp (fun q => q24 ((mr_bit (p := fun x => S (16 * (12 * Z + Y) + x)) hX).mpr q))
      have k9 := kin X Y Z hX hY hZ rfl rfl rfl
      rw [e24] at k9
      exact k9
set_option maxHeartbeats 1000000 in
theorem sp3 {d : Nat} {K : am_K} {h : am_H} {a b : Nat} {f : Nat → Int32} {S : Nat → Bool} (h1 : am_nth h a = some (.inr (0, [.ref b]))) (g1 : am_nth h b = some (.inl (0, 72, .inl f))) (hb : Nat.blt b 1000 = true) (hba : b ≠ a) (hf : ∀ j, j < 72 → f j = mr_w (fun x => S (16 * j + x))) {X Y Z : Nat} {v : Bool} (hX : X < 16) (hY : Y < 12) (hZ : Z < 6) (hc : mi_cell (nI X) (nI Y) (nI Z) = true) (k : ∀ g : Nat → Int32, (∀ j, j < 72 → g j = mr_w (fun x => cond (decide (16 * j + x = X + 16 * Y + 192 * Z)) v (S (16 * j + x)))) → K none (am_upd h b (.inl (0, 72, .inl g)))) : am_Run (d + 3) 3 [.ref a, .int (nI X), .int (nI Y), .int (nI Z), .int (am_b v)] h K := by
  refine ⟨rfl, fun P hm hP => ?_⟩
  show P 0 [some (.ref a), some (.int (nI X)), some (.int (nI Y)), some (.int (nI Z)), some (.int (am_b v)), none] [] _ 0 0
  refine s_iload_n hP t3_0 rfl ?_
  refine s_iload_n hP t3_1 rfl ?_
  refine s_iload_n hP t3_2 rfl ?_
  refine s_invokestatic (bc' := 0) (bs' := 0) hP t3_3 rfl rfl rfl rfl rfl ?_
  refine sp85 ?_
  rw [hc]
  refine s_zne hP t3_6 (fun q6 => ?_) (fun q6 => ?_)
  · refine s_iload_n hP t3_10 rfl ?_
    refine s_bipush (v := 12) hP t3_11 (by decide) ?_
    refine s_imul hP t3_13 ?_
    refine s_iload_n hP t3_14 rfl ?_
    refine s_iadd hP t3_15 ?_
    rw [mr_idx]
    refine s_istore_5 hP t3_16 (by exact rfl) ?_
    refine s_aload_n hP t3_18 rfl ?_
    refine s_getfield hP t3_19 h1 rfl ?_
    refine s_iload hP t3_22 rfl ?_
    refine s_iload hP t3_24 rfl ?_
    refine s_zeq hP t3_26 (fun q26 => ?_) (fun q26 => ?_)
    · refine s_aload_n hP t3_43 rfl ?_
      refine s_getfield hP t3_44 h1 rfl ?_
      refine s_iload hP t3_47 rfl ?_
      refine s_iaload hP t3_49 (am_getn hb g1) (vp_in_nI (by omega) (by decide)) ?_
      rw [nI_clamp (by omega), hf _ (by omega)]
      refine s_iconst (v := 1) hP t3_50 (by decide) ?_
      refine s_iload_n hP t3_51 rfl ?_
      refine s_ishl hP t3_52 ?_
      refine s_iconst (v := (-1)) hP t3_53 (by decide) ?_
      refine s_ixor hP t3_54 ?_
      refine s_iand hP t3_55 ?_
      rw [mr_clear hX]
      refine s_iastore hP t3_56 g1 (vp_in_nI (by omega) (by decide)) ?_
      rw [nI_clamp (by omega)]
      refine s_return_ hP t3_57 rfl ?_
      exact k _ (fun j hj => by
        by_cases hji : j = 12 * Z + Y
        · rw [hji, show upd f (12 * Z + Y) _ (12 * Z + Y) = _ from pk_us]
          refine mr_w_congr (fun x hx => ?_)
          by_cases hxX : x = X
          · rw [hxX, show decide (16 * (12 * Z + Y) + X = X + 16 * Y + 192 * Z) = true by simp; omega]; simp [q26]
          · rw [show decide (16 * (12 * Z + Y) + x = X + 16 * Y + 192 * Z) = false by simp; omega]; simp [hxX]
        · rw [show upd f (12 * Z + Y) _ j = f j from pk_un hji, hf j hj]
          refine mr_w_congr (fun x hx => ?_)
          rw [show decide (16 * j + x = X + 16 * Y + 192 * Z) = false by simp; omega]; simp)
    · refine s_aload_n hP t3_29 rfl ?_
      refine s_getfield hP t3_30 h1 rfl ?_
      refine s_iload hP t3_33 rfl ?_
      refine s_iaload hP t3_35 (am_getn hb g1) (vp_in_nI (by omega) (by decide)) ?_
      rw [nI_clamp (by omega), hf _ (by omega)]
      refine s_iconst (v := 1) hP t3_36 (by decide) ?_
      refine s_iload_n hP t3_37 rfl ?_
      refine s_ishl hP t3_38 ?_
      refine s_ior hP t3_39 ?_
      rw [mr_set hX]
      refine s_goto hP t3_40 ?_
      refine s_iastore hP t3_56 g1 (vp_in_nI (by omega) (by decide)) ?_
      rw [nI_clamp (by omega)]
      refine s_return_ hP t3_57 rfl ?_
      exact k _ (fun j hj => by
        by_cases hji : j = 12 * Z + Y
        · rw [hji, show upd f (12 * Z + Y) _ (12 * Z + Y) = _ from pk_us]
          refine mr_w_congr (fun x hx => ?_)
          by_cases hxX : x = X
          · rw [hxX, show decide (16 * (12 * Z + Y) + X = X + 16 * Y + 192 * Z) = true by simp; omega]; simp [q26]
          · rw [show decide (16 * (12 * Z + Y) + x = X + 16 * Y + 192 * Z) = false by simp; omega]; simp [hxX]
        · rw [show upd f (12 * Z + Y) _ j = f j from pk_un hji, hf j hj]
          refine mr_w_congr (fun x hx => ?_)
          rw [show decide (16 * j + x = X + 16 * Y + 192 * Z) = false by simp; omega]; simp)
  · cases q6
set_option maxHeartbeats 2000000 in
theorem sp5 {d : Nat} {K : am_K} {h : am_H} {a b : Nat} {f : Nat → Int32} {S : Nat → Bool} (h1 : am_nth h a = some (.inr (0, [.ref b]))) (g1 : am_get am_ro h b = some (.inl (0, 72, .inl f))) (hf : ∀ j, j < 72 → f j = mr_w (fun x => S (16 * j + x))) (k : K (some (.long (mr_sumL 1152 S))) h) : am_Run (d + 1) 5 [.ref a] h K := by
  refine ⟨rfl, fun P hm hP => ?_⟩
  show P 0 [some (.ref a), none, none, none, none, none, none] [] _ 0 0
  have loop : ∀ (n i : Nat), i ≤ 72 → 72 + 1 ≤ i + n → P 4 [some (.ref a), some (.long (mr_sumL (16 * i) S)), none, some (.int (nI i)), none, none, none] [] h 0 0 := by
    intro n
    induction n with
    | zero => intro i h3 h4; omega
    | succ n ih =>
      intro i h3 h4
      refine s_iload_n hP t5_4 rfl ?_
      refine s_aload_n hP t5_5 rfl ?_
      refine s_getfield hP t5_6 h1 rfl ?_
      refine s_arraylength hP t5_9 g1 rfl ?_
      refine s_icmp_ge hP t5_10 (fun q10 => ?_) (fun q10 => ?_)
      · have e9 : 72 ≤ i := mi_leN (by decide) (by omega) q10
        refine s_lload_n hP t5_69 rfl ?_
        refine s_lreturn hP t5_70 rfl ?_
        obtain rfl : i = 72 := by omega
        exact k
      · have e9 : i < 72 := mi_nleN (a := 72) (by decide) (by omega) q10
        refine s_iconst (v := 0) hP t5_13 (by decide) ?_
        refine s_istore_4 hP t5_14 (by exact rfl) ?_
        have inner : ∀ (n2 x : Nat), x ≤ 16 → 17 ≤ x + n2 → P 16 [some (.ref a), some (.long (mr_sumL (16 * i + x) S)), none, some (.int (nI i)), some (.int (nI x)), none, none] [] h 0 0 := by
          intro n2
          induction n2 with
          | zero => intro x h5 h6; omega
          | succ n2 ih2 =>
            intro x h5 h6
            refine s_iload hP t5_16 rfl ?_
            refine s_bipush (v := 16) hP t5_18 (by decide) ?_
            refine s_icmp_ge hP t5_20 (fun q20 => ?_) (fun q20 => ?_)
            · have e20 : 16 ≤ x := mi_leN (by decide) (by omega) q20
              refine s_iinc_3 (v := 1) hP t5_63 (by decide) (by exact rfl) ?_
              refine s_goto hP t5_66 ?_
              rw [nI_1]
              obtain rfl : x = 16 := by omega
              refine hm _ _ _ _ _ _ _ (by repeat (first | exact am_le_nil | apply am_le_cons | apply am_le_none)) (ih (i + 1) (by omega) (by omega))
            · have e20 : x < 16 := mi_nleN (a := 16) (by decide) (by omega) q20
              refine s_aload_n hP t5_23 rfl ?_
              refine s_getfield hP t5_24 h1 rfl ?_
              refine s_iload_n hP t5_27 rfl ?_
              refine s_iaload hP t5_28 g1 (vp_in_nI e9 (by decide)) ?_
              rw [nI_clamp (by omega), hf _ e9]
              refine s_iconst (v := 1) hP t5_29 (by decide) ?_
              refine s_iload hP t5_30 rfl ?_
              refine s_ishl hP t5_32 ?_
              refine s_iand hP t5_33 ?_
              refine s_if_eq hP t5_34 (fun q34 => ?_) (fun q34 => ?_)
              · have e34 : S (16 * i + x) = false := (mr_bit (p := fun x => S (16 * i + x)) e20).mp q34
                rw [show mr_sumL (16 * i + x) S = mr_sumL (16 * i + x + 1) S by rw [mr_sumL, e34]; simp]
                refine s_iinc_4 (v := 1) hP t5_57 (by decide) (by exact rfl) ?_
                refine s_goto hP t5_60 ?_
                rw [nI_1]
                refine hm _ _ _ _ _ _ _ (by repeat (first | exact am_le_nil | apply am_le_cons | apply am_le_none)) (ih2 (x + 1) (by omega) (by omega))
              · have e34 : S (16 * i + x) = true := (Bool.not_eq_false _).mp (fun q => q34 ((mr_bit (p := fun x => S (16 * i + x)) e20).mpr q))
                refine s_iload hP t5_37 rfl ?_
                refine s_bipush (v := 16) hP t5_39 (by decide) ?_
                refine s_iload_n hP t5_41 rfl ?_
                refine s_imul hP t5_42 ?_
                refine s_iadd hP t5_43 ?_
                refine s_iconst (v := 1) hP t5_44 (by decide) ?_
                refine s_iadd hP t5_45 ?_
                refine s_i2l hP t5_46 ?_
                rw [show (nI x + 16 * nI i + 1).toInt64 = lN (16 * i + x + 1) by
                  rw [show (16 : Int32) = nI 16 from rfl, pk_mul, nI_add, nI_1, nI_l (by omega)]; congr 1; omega]
                refine s_lstore_5 hP t5_47 (by exact rfl) ?_
                refine s_lload_n hP t5_49 rfl ?_
                refine s_lload hP t5_50 rfl ?_
                refine s_lload hP t5_52 rfl ?_
                refine s_lmul hP t5_54 ?_
                refine s_ladd hP t5_55 ?_
                rw [lN_mul, show mr_sumL (16 * i + x) S + lN ((16 * i + x + 1) * (16 * i + x + 1)) = mr_sumL (16 * i + x + 1) S by rw [mr_sumL, e34]; rfl]
                refine s_lstore_n_1 hP t5_56 (by exact rfl) ?_
                refine s_iinc_4 (v := 1) hP t5_57 (by decide) (by exact rfl) ?_
                refine s_goto hP t5_60 ?_
                rw [nI_1]
                refine hm _ _ _ _ _ _ _ (by repeat (first | exact am_le_nil | apply am_le_cons | apply am_le_none)) (ih2 (x + 1) (by omega) (by omega))
        exact inner 17 0 (by omega) (by omega)
  refine s_lconst (v := 0) hP t5_0 (by decide) ?_
  refine s_lstore_n_1 hP t5_1 (by exact rfl) ?_
  refine s_iconst (v := 0) hP t5_2 (by decide) ?_
  refine s_istore_n_3 hP t5_3 (by exact rfl) ?_
  exact loop 73 0 (by omega) (by omega)
