/-! THE MODEL: drilling, pockets, moves. (rows by gen/sp20.py) -/
def mg_down (x y z : Int32) (D : Nat) : ml_L := (x, y, z, 0, 0, -nI D)
theorem mg_r1 (x : Int32) : x - x = 0 := Int32.sub_self x
theorem mg_r2 (z n : Int32) : z - n - z = -n := by grind
theorem mg_r3 (u a x : Int32) : u + a - x = a + u - x := by grind
theorem mg_r4 (x a : Int32) : x + a - x = a := by grind
theorem mg_r5 (z n : Int32) : z + -n = z - n := by grind
theorem mg_r6 (y : Int32) : y + 1 - y = 1 := by grind
theorem mg_r7 (x a : Int32) : x - (x + a) = -a := by grind
theorem mg_down_eq : ml_down = mg_down := by
  funext x y z D
  rw [ml_down, mk_one, mg_down, mg_r1, mg_r1, mg_r2]
def mg_pkf (x y z : Int32) (A : Nat) : Nat → Nat → List ml_L
  | 0, _ => []
  | n + 1, i => (ml_px x (x + nI A) i, y + nI i, z, 0, 1, 0) :: (ml_px x (x + nI A) i, y + nI i + 1, z, if i % 2 = 0 then -nI A else nI A, 0, 0) :: mg_pkf x y z A n (i + 1)
theorem mg_px_d {x : Int32} {A i : Nat} : ml_px x (x + nI A) (i + 1) - ml_px x (x + nI A) i = if i % 2 = 0 then -nI A else nI A := by
  unfold ml_px
  by_cases h : i % 2 = 0
  · rw [if_neg (by omega), if_pos h, if_pos h, mg_r7]
  · rw [if_pos (by omega), if_neg h, if_neg h, mg_r4]
theorem mg_px_a {x : Int32} {A i : Nat} : ml_px x (x + nI A) i + (if i % 2 = 0 then -nI A else nI A) = ml_px x (x + nI A) (i + 1) := by
  rw [← mg_px_d (x := x)]
  grind
theorem mg_pkf_snoc {x y z : Int32} {A : Nat} : ∀ n i, mg_pkf x y z A (n + 1) i = mg_pkf x y z A n i ++ [(ml_px x (x + nI A) (i + n), y + nI (i + n), z, 0, 1, 0), (ml_px x (x + nI A) (i + n), y + nI (i + n) + 1, z, if (i + n) % 2 = 0 then -nI A else nI A, 0, 0)]
  | 0, i => rfl
  | n + 1, i => by
    rw [mg_pkf, mg_pkf_snoc n (i + 1), mg_pkf, show i + 1 + n = i + (n + 1) by omega]
    rfl
theorem mg_pk_eq {x y z : Int32} {A : Nat} : ∀ n, ml_pk x (x + nI A) y z n = mg_pkf x y z A n 0
  | 0 => rfl
  | n + 1 => by
    rw [ml_pk, mg_pk_eq n, mg_pkf_snoc n 0, Nat.zero_add]
    simp only [mk_one, mg_r1, mg_r6, mg_px_d]
def mg_pocket (x y z : Int32) (A B C : Nat) : List ml_L := mg_down x y z C :: (x, y, z - nI C, nI A, 0, 0) :: mg_pkf x y (z - nI C) A B 0
theorem mg_pocket_eq {x y z : Int32} {A B C : Nat} : [ml_down x y z C, mk_one x y (z - nI C) (x + nI A) y (z - nI C)] ++ ml_pk x (x + nI A) y (z - nI C) B = mg_pocket x y z A B C := by
  rw [mg_pk_eq, mg_down_eq, mk_one, mg_r1, mg_r1, mg_r4]
  rfl
theorem mg_to0 {h : Int32} {cut : Bool} {c s R : Nat} {e : ml_L} {ma : Nat → Nat → Int32} : mg_g h cut c s R e ma 12 0 = e.1 + e.2.2.2.1 := by
  rw [mg_g_12]
  exact mp_3_0
theorem mg_to1 {h : Int32} {cut : Bool} {c s R : Nat} {e : ml_L} {ma : Nat → Nat → Int32} : mg_g h cut c s R e ma 12 1 = e.2.1 + e.2.2.2.2.1 := by
  rw [mg_g_12]
  exact mp_3_1
theorem mg_to2 {h : Int32} {cut : Bool} {c s R : Nat} {e : ml_L} {ma : Nat → Nat → Int32} : mg_g h cut c s R e ma 12 2 = e.2.2.1 + e.2.2.2.2.2 := by
  rw [mg_g_12]
  exact mp_3_2
theorem mt_even : ∀ i, i < 60 → nI i - nI i / 2 * 2 = nI (i % 2) := by decide +kernel
def mg_fin (k : Int32) (ma mb : Nat → Nat → Int32) : Nat → Nat → Int32 := if k = 100 ∨ k = 112 then am_u2 mb 12 (upd (mb 12) 2 (ma 11 2)) else mb
theorem mg_res_i {h : Int32} {cut : Bool} {T : Nat → Bool} {c s R : Nat} {sl fd : Int32} {i : Nat} (h4 : i ≠ 4) (h14 : i ≠ 14) (h12 : i ≠ 12) : ∀ (es : List ml_L) (ma : Nat → Nat → Int32) (t : UInt32), (mg_res h cut T sl c s R fd es ma t).2.1 i = ma i
  | [], ma, t => rfl
  | e :: r, ma, t => by
    rw [mg_res]
    split
    · exact (mg_res_i h4 h14 h12 r _ _).trans (mg_g_i h4 h14 h12)
    · rfl
set_option maxHeartbeats 2000000 in
theorem sp122 {d : Nat} {K : am_K} {ha : Nat → Nat → Int32} {hz : Int32} {a1 : Nat → Nat → Int32} {s1 : Nat → Int32} {t1 : UInt32} {a2 : Nat → Nat → Int32} {s2 : Nat → Int32} {t2 : UInt32} {al : Int32} {ma : Nat → Nat → Int32} {ms : Nat → Int32} {mt : UInt32} {ol : Nat → Int64} {od : Nat → UInt64} {h : Int32} {T : Nat → Bool} {c s R : Nat} {A B : Nat} (hA5 : A ≤ 50) (hB1 : 1 ≤ B) (hB5 : B ≤ 50) (hx : mg_ctx h true T c s R ma ms mt ((ml_deps A B A 1).map (mg_down (ma 11 0) (ma 11 1) (ma 11 2)))) (kt : ∀ (mb : Nat → Nat → Int32) (t9 : UInt32), mg_res h true T (ms 19) c s R (ms 20) ((ml_deps A B A 1).map (mg_down (ma 11 0) (ma 11 1) (ma 11 2))) ma mt = (true, mb, t9) → K (some (.int 1)) (am_W ha hz a1 s1 t1 a2 s2 t2 al (am_u2 mb 12 (upd (mb 12) 2 (ma 11 2))) ms t9 ol od)) (kf : ∀ (mb : Nat → Nat → Int32) (t9 : UInt32), mg_res h true T (ms 19) c s R (ms 20) ((ml_deps A B A 1).map (mg_down (ma 11 0) (ma 11 1) (ma 11 2))) ma mt = (false, mb, t9) → K (some (.int 0)) (am_W ha hz a1 s1 t1 a2 s2 t2 al mb ms t9 ol od)) : am_Run (d + 4) 122 [.ref 39, .int (nI A), .int (nI B)] (am_W ha hz a1 s1 t1 a2 s2 t2 al ma ms mt ol od) K := by
  refine ⟨rfl, fun P hm hP => ?_⟩
  show P 0 [some (.ref 39), some (.int (nI A)), some (.int (nI B)), none] [] _ 0 0
  have fin46 : ∀ (mb : Nat → Nat → Int32) (t9 : UInt32), mb 11 = ma 11 → mg_ctx h true T c s R mb ms t9 [(mg_down (ma 11 0) (ma 11 1) (ma 11 2) A)] → mg_res h true T (ms 19) c s R (ms 20) ((ml_deps A B A 1).map (mg_down (ma 11 0) (ma 11 1) (ma 11 2))) ma mt = mg_res h true T (ms 19) c s R (ms 20) [(mg_down (ma 11 0) (ma 11 1) (ma 11 2) A)] mb t9 → ∀ v, P 46 [some (.ref 39), some (.int (nI A)), some (.int (nI B)), v] [] (am_W ha hz a1 s1 t1 a2 s2 t2 al mb ms t9 ol od) 0 0 := by
    intro mb t9 h11 hc hres v
    refine s_aload_n hP t122_46 rfl ?_
    refine s_aload_n hP t122_47 rfl ?_
    refine s_getfield hP t122_48 rfl rfl ?_
    refine s_iconst (v := 0) hP t122_51 (by decide) ?_
    refine s_iaload hP t122_52 rfl (vp_in_nI (n := 0) (by decide) (by decide)) ?_
    rw [show (0 : Int32).toNatClampNeg = 0 from rfl, h11]
    refine s_aload_n hP t122_53 rfl ?_
    refine s_getfield hP t122_54 rfl rfl ?_
    refine s_iconst (v := 1) hP t122_57 (by decide) ?_
    refine s_iaload hP t122_58 rfl (vp_in_nI (n := 1) (by decide) (by decide)) ?_
    rw [show (1 : Int32).toNatClampNeg = 1 from rfl, h11]
    refine s_aload_n hP t122_59 rfl ?_
    refine s_getfield hP t122_60 rfl rfl ?_
    refine s_iconst (v := 2) hP t122_63 (by decide) ?_
    refine s_iaload hP t122_64 rfl (vp_in_nI (n := 2) (by decide) (by decide)) ?_
    rw [show (2 : Int32).toNatClampNeg = 2 from rfl, h11]
    refine s_iconst (v := 0) hP t122_65 (by decide) ?_
    refine s_iconst (v := 0) hP t122_66 (by decide) ?_
    refine s_iload_n hP t122_67 rfl ?_
    refine s_ineg hP t122_68 ?_
    refine s_iconst (v := 1) hP t122_69 (by decide) ?_
    refine s_invokevirtual (bc' := 0) (bs' := 0) hP t122_70 rfl rfl rfl rfl rfl ?_
    refine sp121 (ma := mb) (mt := t9) (e := (mg_down (ma 11 0) (ma 11 1) (ma 11 2) A)) (r := []) (cut := true) hc (fun hc2 hr2 => ?_) (fun hr2 => ?_)
    · refine s_if_ne hP t122_73 (fun q73 => ?_) (fun q73 => ?_)
      · refine s_aload_n hP t122_78 rfl ?_
        refine s_getfield hP t122_79 rfl rfl ?_
        refine s_iconst (v := 2) hP t122_82 (by decide) ?_
        refine s_aload_n hP t122_83 rfl ?_
        refine s_getfield hP t122_84 rfl rfl ?_
        refine s_iconst (v := 2) hP t122_87 (by decide) ?_
        refine s_iaload hP t122_88 rfl (vp_in_nI (n := 2) (by decide) (by decide)) ?_
        rw [show (2 : Int32).toNatClampNeg = 2 from rfl, mg_g_i (by decide) (by decide) (by decide), h11]
        refine s_iastore hP t122_89 rfl (vp_in_nI (n := 2) (by decide) (by decide)) ?_
        rw [show (2 : Int32).toNatClampNeg = 2 from rfl]
        refine s_iconst (v := 1) hP t122_90 (by decide) ?_
        refine s_ireturn hP t122_91 rfl rfl ?_
        exact kt _ _ (hres.trans hr2)
      · exact absurd q73 (by decide)
    · refine s_if_ne hP t122_73 (fun q73 => ?_) (fun q73 => ?_)
      · exact absurd rfl q73
      · refine s_iconst (v := 0) hP t122_76 (by decide) ?_
        refine s_ireturn hP t122_77 rfl rfl ?_
        exact kf mb t9 (hres.trans hr2)
  have loop : ∀ (n i : Nat) (mb : Nat → Nat → Int32) (t9 : UInt32), n + i = A + 1 → 1 ≤ i → mb 11 = ma 11 → mg_ctx h true T c s R mb ms t9 ((ml_deps A B n i).map (mg_down (ma 11 0) (ma 11 1) (ma 11 2))) → mg_res h true T (ms 19) c s R (ms 20) ((ml_deps A B A 1).map (mg_down (ma 11 0) (ma 11 1) (ma 11 2))) ma mt = mg_res h true T (ms 19) c s R (ms 20) ((ml_deps A B n i).map (mg_down (ma 11 0) (ma 11 1) (ma 11 2))) mb t9 → P 2 [some (.ref 39), some (.int (nI A)), some (.int (nI B)), some (.int (nI (i * B)))] [] (am_W ha hz a1 s1 t1 a2 s2 t2 al mb ms t9 ol od) 0 0 := by
    intro n
    induction n with
    | zero =>
      intro i mb t9 hni hi1 h11 hc hres
      have hib : i ≤ i * B := Nat.le_mul_of_pos_right i hB1
      have hib2 : i * B ≤ 51 * 50 := Nat.mul_le_mul (by omega) hB5
      refine s_iload_n hP t122_2 rfl ?_
      refine s_iload_n hP t122_3 rfl ?_
      refine s_icmp_ge hP t122_4 (fun q4 => ?_) (fun q4 => absurd ((nI_leI (a := A) (b := i * B) (by omega) (by omega)).mpr (by omega)) q4)
      exact fin46 mb t9 h11 hc hres _
    | succ n ih =>
      intro i mb t9 hni hi1 h11 hc hres
      have hib : i ≤ i * B := Nat.le_mul_of_pos_right i hB1
      have hib2 : i * B ≤ 51 * 50 := Nat.mul_le_mul (by omega) hB5
      refine s_iload_n hP t122_2 rfl ?_
      refine s_iload_n hP t122_3 rfl ?_
      refine s_icmp_ge hP t122_4 (fun q4 => ?_) (fun q4 => ?_)
      · have e4 : A ≤ i * B := (nI_leI (by omega) (by omega)).mp q4
        rw [ml_deps, if_neg (by omega)] at hc hres
        exact fin46 mb t9 h11 hc hres _
      · have e4 : i * B < A := Nat.lt_of_not_le (fun q => q4 ((nI_leI (by omega) (by omega)).mpr q))
        rw [ml_deps, if_pos e4] at hc hres
        have hres2 := hres
        refine s_aload_n hP t122_7 rfl ?_
        refine s_aload_n hP t122_8 rfl ?_
        refine s_getfield hP t122_9 rfl rfl ?_
        refine s_iconst (v := 0) hP t122_12 (by decide) ?_
        refine s_iaload hP t122_13 rfl (vp_in_nI (n := 0) (by decide) (by decide)) ?_
        rw [show (0 : Int32).toNatClampNeg = 0 from rfl, h11]
        refine s_aload_n hP t122_14 rfl ?_
        refine s_getfield hP t122_15 rfl rfl ?_
        refine s_iconst (v := 1) hP t122_18 (by decide) ?_
        refine s_iaload hP t122_19 rfl (vp_in_nI (n := 1) (by decide) (by decide)) ?_
        rw [show (1 : Int32).toNatClampNeg = 1 from rfl, h11]
        refine s_aload_n hP t122_20 rfl ?_
        refine s_getfield hP t122_21 rfl rfl ?_
        refine s_iconst (v := 2) hP t122_24 (by decide) ?_
        refine s_iaload hP t122_25 rfl (vp_in_nI (n := 2) (by decide) (by decide)) ?_
        rw [show (2 : Int32).toNatClampNeg = 2 from rfl, h11]
        refine s_iconst (v := 0) hP t122_26 (by decide) ?_
        refine s_iconst (v := 0) hP t122_27 (by decide) ?_
        refine s_iload_n hP t122_28 rfl ?_
        refine s_ineg hP t122_29 ?_
        refine s_iconst (v := 1) hP t122_30 (by decide) ?_
        refine s_invokevirtual (bc' := 0) (bs' := 0) hP t122_31 rfl rfl rfl rfl rfl ?_
        refine sp121 (ma := mb) (mt := t9) (e := (mg_down (ma 11 0) (ma 11 1) (ma 11 2) (i * B))) (r := ((ml_deps A B n (i + 1)).map (mg_down (ma 11 0) (ma 11 1) (ma 11 2)))) (cut := true) hc (fun hc2 hr2 => ?_) (fun hr2 => ?_)
        · refine s_if_ne hP t122_34 (fun q34 => ?_) (fun q34 => ?_)
          · refine s_iload_n hP t122_39 rfl ?_
            refine s_iload_n hP t122_40 rfl ?_
            refine s_iadd hP t122_41 ?_
            refine s_istore_n_3 hP t122_42 (by exact rfl) ?_
            refine s_goto hP t122_43 ?_
            rw [nI_add, show i * B + B = (i + 1) * B by rw [Nat.add_mul, Nat.one_mul]]
            exact ih (i + 1) (mg_g h true c s R (mg_down (ma 11 0) (ma 11 1) (ma 11 2) (i * B)) mb) (mg_t h true (ms 20) (mg_down (ma 11 0) (ma 11 1) (ma 11 2) (i * B)) t9) (by omega) (by omega) ((mg_g_i (by decide) (by decide) (by decide)).trans h11) hc2 (hres2.trans hr2)
          · exact absurd q34 (by decide)
        · refine s_if_ne hP t122_34 (fun q34 => ?_) (fun q34 => ?_)
          · exact absurd rfl q34
          · refine s_iconst (v := 0) hP t122_37 (by decide) ?_
            refine s_ireturn hP t122_38 rfl rfl ?_
            exact kf mb t9 (hres2.trans hr2)
  refine s_iload_n hP t122_0 rfl ?_
  refine s_istore_n_3 hP t122_1 (by exact rfl) ?_
  have l9 := loop A 1 ma mt rfl (Nat.le_refl _) rfl hx rfl
  rw [Nat.one_mul] at l9
  exact l9
set_option maxHeartbeats 2000000 in
theorem sp123 {d : Nat} {K : am_K} {ha : Nat → Nat → Int32} {hz : Int32} {a1 : Nat → Nat → Int32} {s1 : Nat → Int32} {t1 : UInt32} {a2 : Nat → Nat → Int32} {s2 : Nat → Int32} {t2 : UInt32} {al : Int32} {ma : Nat → Nat → Int32} {ms : Nat → Int32} {mt : UInt32} {ol : Nat → Int64} {od : Nat → UInt64} {h : Int32} {T : Nat → Bool} {c s R : Nat} {A B C : Nat} (hB5 : B ≤ 50) (hx : mg_ctx h true T c s R ma ms mt (mg_pocket (ma 11 0) (ma 11 1) (ma 11 2) A B C)) (kt : ∀ (mb : Nat → Nat → Int32) (t9 : UInt32), mg_res h true T (ms 19) c s R (ms 20) (mg_pocket (ma 11 0) (ma 11 1) (ma 11 2) A B C) ma mt = (true, mb, t9) → K (some (.int 1)) (am_W ha hz a1 s1 t1 a2 s2 t2 al (am_u2 mb 12 (upd (mb 12) 2 (ma 11 2))) ms t9 ol od)) (kf : ∀ (mb : Nat → Nat → Int32) (t9 : UInt32), mg_res h true T (ms 19) c s R (ms 20) (mg_pocket (ma 11 0) (ma 11 1) (ma 11 2) A B C) ma mt = (false, mb, t9) → K (some (.int 0)) (am_W ha hz a1 s1 t1 a2 s2 t2 al mb ms t9 ol od)) : am_Run (d + 4) 123 [.ref 39, .int (nI A), .int (nI B), .int (nI C)] (am_W ha hz a1 s1 t1 a2 s2 t2 al ma ms mt ol od) K := by
  refine ⟨rfl, fun P hm hP => ?_⟩
  show P 0 [some (.ref 39), some (.int (nI A)), some (.int (nI B)), some (.int (nI C)), none, none] [] _ 0 0
  have loop : ∀ (n i : Nat) (mb : Nat → Nat → Int32) (t9 : UInt32), n + i = B → mb 11 = ma 11 → mb 12 0 = (ml_px (ma 11 0) ((ma 11 0) + nI A) i) → mb 12 1 = (ma 11 1) + nI i → mg_ctx h true T c s R mb ms t9 (mg_pkf (ma 11 0) (ma 11 1) ((ma 11 2) - nI C) A n i) → mg_res h true T (ms 19) c s R (ms 20) (mg_pocket (ma 11 0) (ma 11 1) (ma 11 2) A B C) ma mt = mg_res h true T (ms 19) c s R (ms 20) (mg_pkf (ma 11 0) (ma 11 1) ((ma 11 2) - nI C) A n i) mb t9 → P 70 [some (.ref 39), some (.int (nI A)), some (.int (nI B)), some (.int (nI C)), some (.int ((ma 11 2) - nI C)), some (.int (nI i))] [] (am_W ha hz a1 s1 t1 a2 s2 t2 al mb ms t9 ol od) 0 0 := by
    intro n
    induction n with
    | zero =>
      intro i mb t9 hni h11 h120 h121 hc hres
      refine s_iload hP t123_70 rfl ?_
      refine s_iload_n hP t123_72 rfl ?_
      refine s_icmp_ge hP t123_73 (fun q73 => ?_) (fun q73 => ?_)
      · refine s_aload_n hP t123_148 rfl ?_
        refine s_getfield hP t123_149 rfl rfl ?_
        refine s_iconst (v := 2) hP t123_152 (by decide) ?_
        refine s_aload_n hP t123_153 rfl ?_
        refine s_getfield hP t123_154 rfl rfl ?_
        refine s_iconst (v := 2) hP t123_157 (by decide) ?_
        refine s_iaload hP t123_158 rfl (vp_in_nI (n := 2) (by decide) (by decide)) ?_
        rw [show (2 : Int32).toNatClampNeg = 2 from rfl, h11]
        refine s_iastore hP t123_159 rfl (vp_in_nI (n := 2) (by decide) (by decide)) ?_
        rw [show (2 : Int32).toNatClampNeg = 2 from rfl]
        refine s_iconst (v := 1) hP t123_160 (by decide) ?_
        refine s_ireturn hP t123_161 rfl rfl ?_
        exact kt mb t9 hres
      · exact absurd ((nI_leI (a := B) (b := i) (by omega) (by omega)).mpr (by omega)) q73
    | succ n ih =>
      intro i mb t9 hni h11 h120 h121 hc hres
      refine s_iload hP t123_70 rfl ?_
      refine s_iload_n hP t123_72 rfl ?_
      refine s_icmp_ge hP t123_73 (fun q73 => ?_) (fun q73 => ?_)
      · exact absurd ((nI_leI (by omega) (by omega)).mp q73) (by omega)
      · rw [mg_pkf] at hc hres
        have hres3 := hres
        refine s_aload_n hP t123_76 rfl ?_
        refine s_aload_n hP t123_77 rfl ?_
        refine s_getfield hP t123_78 rfl rfl ?_
        refine s_iconst (v := 0) hP t123_81 (by decide) ?_
        refine s_iaload hP t123_82 rfl (vp_in_nI (n := 0) (by decide) (by decide)) ?_
        rw [show (0 : Int32).toNatClampNeg = 0 from rfl, h120]
        refine s_aload_n hP t123_83 rfl ?_
        refine s_getfield hP t123_84 rfl rfl ?_
        refine s_iconst (v := 1) hP t123_87 (by decide) ?_
        refine s_iaload hP t123_88 rfl (vp_in_nI (n := 1) (by decide) (by decide)) ?_
        rw [show (1 : Int32).toNatClampNeg = 1 from rfl, h121]
        refine s_iload hP t123_89 rfl ?_
        refine s_iconst (v := 0) hP t123_91 (by decide) ?_
        refine s_iconst (v := 1) hP t123_92 (by decide) ?_
        refine s_iconst (v := 0) hP t123_93 (by decide) ?_
        refine s_iconst (v := 1) hP t123_94 (by decide) ?_
        refine s_invokevirtual (bc' := 0) (bs' := 0) hP t123_95 rfl rfl rfl rfl rfl ?_
        refine sp121 (ma := mb) (mt := t9) (e := ((ml_px (ma 11 0) ((ma 11 0) + nI A) i), (ma 11 1) + nI i, ((ma 11 2) - nI C), 0, 1, 0)) (r := (((ml_px (ma 11 0) ((ma 11 0) + nI A) i), (ma 11 1) + nI i + 1, ((ma 11 2) - nI C), (if i % 2 = 0 then -nI A else nI A), 0, 0) :: (mg_pkf (ma 11 0) (ma 11 1) ((ma 11 2) - nI C) A n (i + 1)))) (cut := true) hc (fun hc2 hr2 => ?_) (fun hr2 => ?_)
        · refine s_if_ne hP t123_98 (fun q98 => ?_) (fun q98 => ?_)
          · have hc3 := hc2
            have hres4 := hres3.trans hr2
            refine s_aload_n hP t123_103 rfl ?_
            refine s_aload_n hP t123_104 rfl ?_
            refine s_getfield hP t123_105 rfl rfl ?_
            refine s_iconst (v := 0) hP t123_108 (by decide) ?_
            refine s_iaload hP t123_109 rfl (vp_in_nI (n := 0) (by decide) (by decide)) ?_
            rw [show (0 : Int32).toNatClampNeg = 0 from rfl, show (mg_g h true c s R ((ml_px (ma 11 0) ((ma 11 0) + nI A) i), (ma 11 1) + nI i, ((ma 11 2) - nI C), 0, 1, 0) mb) 12 0 = (ml_px (ma 11 0) ((ma 11 0) + nI A) i) from mg_to0.trans (Int32.add_zero _)]
            refine s_aload_n hP t123_110 rfl ?_
            refine s_getfield hP t123_111 rfl rfl ?_
            refine s_iconst (v := 1) hP t123_114 (by decide) ?_
            refine s_iaload hP t123_115 rfl (vp_in_nI (n := 1) (by decide) (by decide)) ?_
            rw [show (1 : Int32).toNatClampNeg = 1 from rfl, show (mg_g h true c s R ((ml_px (ma 11 0) ((ma 11 0) + nI A) i), (ma 11 1) + nI i, ((ma 11 2) - nI C), 0, 1, 0) mb) 12 1 = (ma 11 1) + nI i + 1 from mg_to1]
            refine s_iload hP t123_116 rfl ?_
            refine s_iload hP t123_118 rfl ?_
            refine s_iconst (v := 2) hP t123_120 (by decide) ?_
            refine s_irem hP t123_121 (by decide) ?_
            rw [mt_even i (by omega)]
            refine s_if_ne hP t123_122 (fun q122 => ?_) (fun q122 => ?_)
            · have e122 : ¬ i % 2 = 0 := fun h => q122 (by rw [h]; rfl)
              refine s_iload_n hP t123_130 rfl ?_
              refine s_iconst (v := 0) hP t123_131 (by decide) ?_
              refine s_iconst (v := 0) hP t123_132 (by decide) ?_
              refine s_iconst (v := 1) hP t123_133 (by decide) ?_
              refine s_invokevirtual (bc' := 0) (bs' := 0) hP t123_134 rfl rfl rfl rfl rfl ?_
              have hpx : (ml_px (ma 11 0) ((ma 11 0) + nI A) i) + nI A = ml_px (ma 11 0) ((ma 11 0) + nI A) (i + 1) := by
                have h9 := mg_px_a (x := (ma 11 0)) (A := A) (i := i)
                rw [if_neg e122] at h9
                exact h9
              rw [if_neg e122] at hc3 hres4
              refine sp121 (ma := (mg_g h true c s R ((ml_px (ma 11 0) ((ma 11 0) + nI A) i), (ma 11 1) + nI i, ((ma 11 2) - nI C), 0, 1, 0) mb)) (mt := (mg_t h true (ms 20) ((ml_px (ma 11 0) ((ma 11 0) + nI A) i), (ma 11 1) + nI i, ((ma 11 2) - nI C), 0, 1, 0) t9)) (e := ((ml_px (ma 11 0) ((ma 11 0) + nI A) i), (ma 11 1) + nI i + 1, ((ma 11 2) - nI C), nI A, 0, 0)) (r := (mg_pkf (ma 11 0) (ma 11 1) ((ma 11 2) - nI C) A n (i + 1))) (cut := true) hc3 (fun hc2 hr2 => ?_) (fun hr2 => ?_)
              · refine s_if_ne hP t123_137 (fun q137 => ?_) (fun q137 => ?_)
                · refine s_iinc_5 (v := 1) hP t123_142 (by decide) (by exact rfl) ?_
                  refine s_goto hP t123_145 ?_
                  rw [nI_1]
                  refine ih (i + 1) (mg_g h true c s R ((ml_px (ma 11 0) ((ma 11 0) + nI A) i), (ma 11 1) + nI i + 1, ((ma 11 2) - nI C), nI A, 0, 0) (mg_g h true c s R ((ml_px (ma 11 0) ((ma 11 0) + nI A) i), (ma 11 1) + nI i, ((ma 11 2) - nI C), 0, 1, 0) mb)) (mg_t h true (ms 20) ((ml_px (ma 11 0) ((ma 11 0) + nI A) i), (ma 11 1) + nI i + 1, ((ma 11 2) - nI C), nI A, 0, 0) (mg_t h true (ms 20) ((ml_px (ma 11 0) ((ma 11 0) + nI A) i), (ma 11 1) + nI i, ((ma 11 2) - nI C), 0, 1, 0) t9)) (by omega) ?_ ?_ ?_ hc2 (hres4.trans hr2)
                  · exact (mg_g_i (by decide) (by decide) (by decide)).trans ((mg_g_i (by decide) (by decide) (by decide)).trans h11)
                  · exact mg_to0.trans hpx
                  · refine mg_to1.trans ?_
                    show (ma 11 1) + nI i + 1 + 0 = (ma 11 1) + nI (i + 1)
                    rw [Int32.add_zero, Int32.add_assoc, nI_1]
                · exact absurd q137 (by decide)
              · refine s_if_ne hP t123_137 (fun q137 => ?_) (fun q137 => ?_)
                · exact absurd rfl q137
                · refine s_iconst (v := 0) hP t123_140 (by decide) ?_
                  refine s_ireturn hP t123_141 rfl rfl ?_
                  exact kf _ _ (hres4.trans hr2)
            · have e122 : i % 2 = 0 := (nI_inj (a := i % 2) (b := 0) (by omega) (by decide)).mp q122
              refine s_iload_n hP t123_125 rfl ?_
              refine s_ineg hP t123_126 ?_
              refine s_goto hP t123_127 ?_
              refine s_iconst (v := 0) hP t123_131 (by decide) ?_
              refine s_iconst (v := 0) hP t123_132 (by decide) ?_
              refine s_iconst (v := 1) hP t123_133 (by decide) ?_
              refine s_invokevirtual (bc' := 0) (bs' := 0) hP t123_134 rfl rfl rfl rfl rfl ?_
              have hpx : (ml_px (ma 11 0) ((ma 11 0) + nI A) i) + -nI A = ml_px (ma 11 0) ((ma 11 0) + nI A) (i + 1) := by
                have h9 := mg_px_a (x := (ma 11 0)) (A := A) (i := i)
                rw [if_pos e122] at h9
                exact h9
              rw [if_pos e122] at hc3 hres4
              refine sp121 (ma := (mg_g h true c s R ((ml_px (ma 11 0) ((ma 11 0) + nI A) i), (ma 11 1) + nI i, ((ma 11 2) - nI C), 0, 1, 0) mb)) (mt := (mg_t h true (ms 20) ((ml_px (ma 11 0) ((ma 11 0) + nI A) i), (ma 11 1) + nI i, ((ma 11 2) - nI C), 0, 1, 0) t9)) (e := ((ml_px (ma 11 0) ((ma 11 0) + nI A) i), (ma 11 1) + nI i + 1, ((ma 11 2) - nI C), -nI A, 0, 0)) (r := (mg_pkf (ma 11 0) (ma 11 1) ((ma 11 2) - nI C) A n (i + 1))) (cut := true) hc3 (fun hc2 hr2 => ?_) (fun hr2 => ?_)
              · refine s_if_ne hP t123_137 (fun q137 => ?_) (fun q137 => ?_)
                · refine s_iinc_5 (v := 1) hP t123_142 (by decide) (by exact rfl) ?_
                  refine s_goto hP t123_145 ?_
                  rw [nI_1]
                  refine ih (i + 1) (mg_g h true c s R ((ml_px (ma 11 0) ((ma 11 0) + nI A) i), (ma 11 1) + nI i + 1, ((ma 11 2) - nI C), -nI A, 0, 0) (mg_g h true c s R ((ml_px (ma 11 0) ((ma 11 0) + nI A) i), (ma 11 1) + nI i, ((ma 11 2) - nI C), 0, 1, 0) mb)) (mg_t h true (ms 20) ((ml_px (ma 11 0) ((ma 11 0) + nI A) i), (ma 11 1) + nI i + 1, ((ma 11 2) - nI C), -nI A, 0, 0) (mg_t h true (ms 20) ((ml_px (ma 11 0) ((ma 11 0) + nI A) i), (ma 11 1) + nI i, ((ma 11 2) - nI C), 0, 1, 0) t9)) (by omega) ?_ ?_ ?_ hc2 (hres4.trans hr2)
                  · exact (mg_g_i (by decide) (by decide) (by decide)).trans ((mg_g_i (by decide) (by decide) (by decide)).trans h11)
                  · exact mg_to0.trans hpx
                  · refine mg_to1.trans ?_
                    show (ma 11 1) + nI i + 1 + 0 = (ma 11 1) + nI (i + 1)
                    rw [Int32.add_zero, Int32.add_assoc, nI_1]
                · exact absurd q137 (by decide)
              · refine s_if_ne hP t123_137 (fun q137 => ?_) (fun q137 => ?_)
                · exact absurd rfl q137
                · refine s_iconst (v := 0) hP t123_140 (by decide) ?_
                  refine s_ireturn hP t123_141 rfl rfl ?_
                  exact kf _ _ (hres4.trans hr2)
          · exact absurd q98 (by decide)
        · refine s_if_ne hP t123_98 (fun q98 => ?_) (fun q98 => ?_)
          · exact absurd rfl q98
          · refine s_iconst (v := 0) hP t123_101 (by decide) ?_
            refine s_ireturn hP t123_102 rfl rfl ?_
            exact kf _ _ (hres3.trans hr2)
  refine s_aload_n hP t123_0 rfl ?_
  refine s_aload_n hP t123_1 rfl ?_
  refine s_getfield hP t123_2 rfl rfl ?_
  refine s_iconst (v := 0) hP t123_5 (by decide) ?_
  refine s_iaload hP t123_6 rfl (vp_in_nI (n := 0) (by decide) (by decide)) ?_
  rw [show (0 : Int32).toNatClampNeg = 0 from rfl]
  refine s_aload_n hP t123_7 rfl ?_
  refine s_getfield hP t123_8 rfl rfl ?_
  refine s_iconst (v := 1) hP t123_11 (by decide) ?_
  refine s_iaload hP t123_12 rfl (vp_in_nI (n := 1) (by decide) (by decide)) ?_
  rw [show (1 : Int32).toNatClampNeg = 1 from rfl]
  refine s_aload_n hP t123_13 rfl ?_
  refine s_getfield hP t123_14 rfl rfl ?_
  refine s_iconst (v := 2) hP t123_17 (by decide) ?_
  refine s_iaload hP t123_18 rfl (vp_in_nI (n := 2) (by decide) (by decide)) ?_
  rw [show (2 : Int32).toNatClampNeg = 2 from rfl]
  refine s_iconst (v := 0) hP t123_19 (by decide) ?_
  refine s_iconst (v := 0) hP t123_20 (by decide) ?_
  refine s_iload_n hP t123_21 rfl ?_
  refine s_ineg hP t123_22 ?_
  refine s_iconst (v := 1) hP t123_23 (by decide) ?_
  refine s_invokevirtual (bc' := 0) (bs' := 0) hP t123_24 rfl rfl rfl rfl rfl ?_
  refine sp121 (ma := ma) (mt := mt) (e := (mg_down (ma 11 0) (ma 11 1) (ma 11 2) C)) (r := (((ma 11 0), (ma 11 1), ((ma 11 2) - nI C), nI A, 0, 0) :: (mg_pkf (ma 11 0) (ma 11 1) ((ma 11 2) - nI C) A B 0))) (cut := true) hx (fun hc2 hr2 => ?_) (fun hr2 => ?_)
  · refine s_if_ne hP t123_27 (fun q27 => ?_) (fun q27 => ?_)
    · refine s_aload_n hP t123_32 rfl ?_
      refine s_getfield hP t123_33 rfl rfl ?_
      refine s_iconst (v := 2) hP t123_36 (by decide) ?_
      refine s_iaload hP t123_37 rfl (vp_in_nI (n := 2) (by decide) (by decide)) ?_
      rw [show (2 : Int32).toNatClampNeg = 2 from rfl, show (mg_g h true c s R (mg_down (ma 11 0) (ma 11 1) (ma 11 2) C) ma) 12 2 = ((ma 11 2) - nI C) from mg_to2.trans (mg_r5 _ _)]
      refine s_istore_4 hP t123_38 (by exact rfl) ?_
      refine s_aload_n hP t123_40 rfl ?_
      refine s_aload_n hP t123_41 rfl ?_
      refine s_getfield hP t123_42 rfl rfl ?_
      refine s_iconst (v := 0) hP t123_45 (by decide) ?_
      refine s_iaload hP t123_46 rfl (vp_in_nI (n := 0) (by decide) (by decide)) ?_
      rw [show (0 : Int32).toNatClampNeg = 0 from rfl, show (mg_g h true c s R (mg_down (ma 11 0) (ma 11 1) (ma 11 2) C) ma) 12 0 = (ma 11 0) from mg_to0.trans (Int32.add_zero _)]
      refine s_aload_n hP t123_47 rfl ?_
      refine s_getfield hP t123_48 rfl rfl ?_
      refine s_iconst (v := 1) hP t123_51 (by decide) ?_
      refine s_iaload hP t123_52 rfl (vp_in_nI (n := 1) (by decide) (by decide)) ?_
      rw [show (1 : Int32).toNatClampNeg = 1 from rfl, show (mg_g h true c s R (mg_down (ma 11 0) (ma 11 1) (ma 11 2) C) ma) 12 1 = (ma 11 1) from mg_to1.trans (Int32.add_zero _)]
      refine s_iload hP t123_53 rfl ?_
      refine s_iload_n hP t123_55 rfl ?_
      refine s_iconst (v := 0) hP t123_56 (by decide) ?_
      refine s_iconst (v := 0) hP t123_57 (by decide) ?_
      refine s_iconst (v := 1) hP t123_58 (by decide) ?_
      refine s_invokevirtual (bc' := 0) (bs' := 0) hP t123_59 rfl rfl rfl rfl rfl ?_
      have hres1 := hr2
      refine sp121 (ma := (mg_g h true c s R (mg_down (ma 11 0) (ma 11 1) (ma 11 2) C) ma)) (mt := (mg_t h true (ms 20) (mg_down (ma 11 0) (ma 11 1) (ma 11 2) C) mt)) (e := ((ma 11 0), (ma 11 1), ((ma 11 2) - nI C), nI A, 0, 0)) (r := (mg_pkf (ma 11 0) (ma 11 1) ((ma 11 2) - nI C) A B 0)) (cut := true) hc2 (fun hc2 hr2 => ?_) (fun hr2 => ?_)
      · refine s_if_ne hP t123_62 (fun q62 => ?_) (fun q62 => ?_)
        · refine s_iconst (v := 0) hP t123_67 (by decide) ?_
          refine s_istore_5 hP t123_68 (by exact rfl) ?_
          have hres2 := hres1.trans hr2
          have h120 : (mg_g h true c s R ((ma 11 0), (ma 11 1), ((ma 11 2) - nI C), nI A, 0, 0) (mg_g h true c s R (mg_down (ma 11 0) (ma 11 1) (ma 11 2) C) ma)) 12 0 = ml_px (ma 11 0) ((ma 11 0) + nI A) 0 := mg_to0
          have h121 : (mg_g h true c s R ((ma 11 0), (ma 11 1), ((ma 11 2) - nI C), nI A, 0, 0) (mg_g h true c s R (mg_down (ma 11 0) (ma 11 1) (ma 11 2) C) ma)) 12 1 = (ma 11 1) + nI 0 := mg_to1
          exact loop B 0 (mg_g h true c s R ((ma 11 0), (ma 11 1), ((ma 11 2) - nI C), nI A, 0, 0) (mg_g h true c s R (mg_down (ma 11 0) (ma 11 1) (ma 11 2) C) ma)) (mg_t h true (ms 20) ((ma 11 0), (ma 11 1), ((ma 11 2) - nI C), nI A, 0, 0) (mg_t h true (ms 20) (mg_down (ma 11 0) (ma 11 1) (ma 11 2) C) mt)) (by omega) ((mg_g_i (by decide) (by decide) (by decide)).trans (mg_g_i (by decide) (by decide) (by decide))) h120 h121 hc2 hres2
        · exact absurd q62 (by decide)
      · refine s_if_ne hP t123_62 (fun q62 => ?_) (fun q62 => ?_)
        · exact absurd rfl q62
        · refine s_iconst (v := 0) hP t123_65 (by decide) ?_
          refine s_ireturn hP t123_66 rfl rfl ?_
          exact kf _ _ (hres1.trans hr2)
    · exact absurd q27 (by decide)
  · refine s_if_ne hP t123_27 (fun q27 => ?_) (fun q27 => ?_)
    · exact absurd rfl q27
    · refine s_iconst (v := 0) hP t123_30 (by decide) ?_
      refine s_ireturn hP t123_31 rfl rfl ?_
      exact kf _ _ hr2
/-- what a move counts from, in the model: the offset, or the place -/
def mk_b (ma : Nat → Nat → Int32) (ms : Nat → Int32) (i : Nat) : Int32 := if ms 22 = 0 then ma 10 (3 * (ms 21).toNatClampNeg + i) else ma 11 i
theorem ml_down_dn {x y z : Int32} {l : List Nat} : l.map (ml_down x y z) = l.map (mg_down x y z) := by rw [mg_down_eq]
set_option maxHeartbeats 2000000 in
theorem sp124d {d : Nat} {K : am_K} {ha : Nat → Nat → Int32} {hz : Int32} {a1 : Nat → Nat → Int32} {s1 : Nat → Int32} {t1 : UInt32} {a2 : Nat → Nat → Int32} {s2 : Nat → Int32} {t2 : UInt32} {al : Int32} {ma : Nat → Nat → Int32} {ms : Nat → Int32} {mt : UInt32} {ol : Nat → Int64} {od : Nat → UInt64} {h : Int32} {T : Nat → Bool} {c s R : Nat} {k a b c9 : Int32} (hx : mg_ctx h true T c s R ma ms mt (ml_legs k a b c9 (ma 11 0) (ma 11 1) (ma 11 2) (mk_b ma ms 0) (mk_b ma ms 1) (mk_b ma ms 2))) (h100 : k = 100 → ∃ A B, a = nI A ∧ b = nI B ∧ A ≤ 50 ∧ 1 ≤ B ∧ B ≤ 50) (h112 : k = 112 → ∃ A B C, a = nI A ∧ b = nI B ∧ c9 = nI C ∧ A ≤ 50 ∧ B ≤ 50 ∧ C ≤ 50) (hk9 : k = 100) (kt : ∀ (mb : Nat → Nat → Int32) (t9 : UInt32), mg_res h true T (ms 19) c s R (ms 20) (ml_legs k a b c9 (ma 11 0) (ma 11 1) (ma 11 2) (mk_b ma ms 0) (mk_b ma ms 1) (mk_b ma ms 2)) ma mt = (true, mb, t9) → K (some (.int 1)) (am_W ha hz a1 s1 t1 a2 s2 t2 al (mg_fin k ma mb) ms t9 ol od)) (kf : ∀ (mb : Nat → Nat → Int32) (t9 : UInt32), mg_res h true T (ms 19) c s R (ms 20) (ml_legs k a b c9 (ma 11 0) (ma 11 1) (ma 11 2) (mk_b ma ms 0) (mk_b ma ms 1) (mk_b ma ms 2)) ma mt = (false, mb, t9) → K (some (.int 0)) (am_W ha hz a1 s1 t1 a2 s2 t2 al mb ms t9 ol od)) : am_Run (d + 5) 124 [.ref 39, .int k, .int a, .int b, .int c9] (am_W ha hz a1 s1 t1 a2 s2 t2 al ma ms mt ol od) K := by
  refine ⟨rfl, fun P hm hP => ?_⟩
  show P 0 [some (.ref 39), some (.int k), some (.int a), some (.int b), some (.int c9), none, none, none] [] _ 0 0
  refine s_iload_n hP t124_0 rfl ?_
  refine s_bipush (v := 100) hP t124_1 (by decide) ?_
  refine s_icmp_ne hP t124_3 (fun q3 => ?_) (fun q3 => ?_)
  · exact absurd hk9 q3
  · refine s_aload_n hP t124_6 rfl ?_
    refine s_iload_n hP t124_7 rfl ?_
    refine s_iload_n hP t124_8 rfl ?_
    refine s_invokevirtual (bc' := 0) (bs' := 0) hP t124_9 rfl rfl rfl rfl rfl ?_
    obtain ⟨A, B, rfl, rfl, hA5, hB1, hB5⟩ := h100 hk9
    rw [ml_legs, if_neg (by rw [hk9]; decide), if_pos hk9, nI_clamp (by omega), nI_clamp (by omega), ml_down_dn] at hx kt kf
    refine sp122 (h := h) (T := T) (c := c) (s := s) (R := R) hA5 hB1 hB5 hx (fun mb t9 hr => ?_) (fun mb t9 hr => ?_)
    · have k9 := kt mb t9 hr
      rw [mg_fin, if_pos (Or.inl hk9)] at k9
      refine s_ireturn hP t124_12 rfl rfl ?_
      exact k9
    · refine s_ireturn hP t124_12 rfl rfl ?_
      exact kf mb t9 hr
set_option maxHeartbeats 2000000 in
theorem sp124p {d : Nat} {K : am_K} {ha : Nat → Nat → Int32} {hz : Int32} {a1 : Nat → Nat → Int32} {s1 : Nat → Int32} {t1 : UInt32} {a2 : Nat → Nat → Int32} {s2 : Nat → Int32} {t2 : UInt32} {al : Int32} {ma : Nat → Nat → Int32} {ms : Nat → Int32} {mt : UInt32} {ol : Nat → Int64} {od : Nat → UInt64} {h : Int32} {T : Nat → Bool} {c s R : Nat} {k a b c9 : Int32} (hx : mg_ctx h true T c s R ma ms mt (ml_legs k a b c9 (ma 11 0) (ma 11 1) (ma 11 2) (mk_b ma ms 0) (mk_b ma ms 1) (mk_b ma ms 2))) (h100 : k = 100 → ∃ A B, a = nI A ∧ b = nI B ∧ A ≤ 50 ∧ 1 ≤ B ∧ B ≤ 50) (h112 : k = 112 → ∃ A B C, a = nI A ∧ b = nI B ∧ c9 = nI C ∧ A ≤ 50 ∧ B ≤ 50 ∧ C ≤ 50) (hk9 : k = 112) (kt : ∀ (mb : Nat → Nat → Int32) (t9 : UInt32), mg_res h true T (ms 19) c s R (ms 20) (ml_legs k a b c9 (ma 11 0) (ma 11 1) (ma 11 2) (mk_b ma ms 0) (mk_b ma ms 1) (mk_b ma ms 2)) ma mt = (true, mb, t9) → K (some (.int 1)) (am_W ha hz a1 s1 t1 a2 s2 t2 al (mg_fin k ma mb) ms t9 ol od)) (kf : ∀ (mb : Nat → Nat → Int32) (t9 : UInt32), mg_res h true T (ms 19) c s R (ms 20) (ml_legs k a b c9 (ma 11 0) (ma 11 1) (ma 11 2) (mk_b ma ms 0) (mk_b ma ms 1) (mk_b ma ms 2)) ma mt = (false, mb, t9) → K (some (.int 0)) (am_W ha hz a1 s1 t1 a2 s2 t2 al mb ms t9 ol od)) : am_Run (d + 5) 124 [.ref 39, .int k, .int a, .int b, .int c9] (am_W ha hz a1 s1 t1 a2 s2 t2 al ma ms mt ol od) K := by
  refine ⟨rfl, fun P hm hP => ?_⟩
  show P 0 [some (.ref 39), some (.int k), some (.int a), some (.int b), some (.int c9), none, none, none] [] _ 0 0
  refine s_iload_n hP t124_0 rfl ?_
  refine s_bipush (v := 100) hP t124_1 (by decide) ?_
  refine s_icmp_ne hP t124_3 (fun q3 => ?_) (fun q3 => ?_)
  · refine s_iload_n hP t124_13 rfl ?_
    refine s_bipush (v := 112) hP t124_14 (by decide) ?_
    refine s_icmp_ne hP t124_16 (fun q16 => ?_) (fun q16 => ?_)
    · exact absurd hk9 q16
    · refine s_aload_n hP t124_19 rfl ?_
      refine s_iload_n hP t124_20 rfl ?_
      refine s_iload_n hP t124_21 rfl ?_
      refine s_iload hP t124_22 rfl ?_
      refine s_invokevirtual (bc' := 0) (bs' := 0) hP t124_24 rfl rfl rfl rfl rfl ?_
      obtain ⟨A, B, C, rfl, rfl, rfl, hA5, hB5, hC5⟩ := h112 hk9
      rw [ml_legs, if_neg (by rw [hk9]; decide), if_neg (by rw [hk9]; decide), if_pos hk9, nI_clamp (by omega), nI_clamp (by omega), mg_pocket_eq] at hx kt kf
      refine sp123 (h := h) (T := T) (c := c) (s := s) (R := R) hB5 hx (fun mb t9 hr => ?_) (fun mb t9 hr => ?_)
      · have k9 := kt mb t9 hr
        rw [mg_fin, if_pos (Or.inr hk9)] at k9
        refine s_ireturn hP t124_27 rfl rfl ?_
        exact k9
      · refine s_ireturn hP t124_27 rfl rfl ?_
        exact kf mb t9 hr
  · exact absurd (hk9.symm.trans q3) (by decide)
set_option maxHeartbeats 2000000 in
theorem sp124g {d : Nat} {K : am_K} {ha : Nat → Nat → Int32} {hz : Int32} {a1 : Nat → Nat → Int32} {s1 : Nat → Int32} {t1 : UInt32} {a2 : Nat → Nat → Int32} {s2 : Nat → Int32} {t2 : UInt32} {al : Int32} {ma : Nat → Nat → Int32} {ms : Nat → Int32} {mt : UInt32} {ol : Nat → Int64} {od : Nat → UInt64} {h : Int32} {cut : Bool} {T : Nat → Bool} {c s R : Nat} {k a b c9 : Int32} (hx : mg_ctx h cut T c s R ma ms mt (ml_legs k a b c9 (ma 11 0) (ma 11 1) (ma 11 2) (mk_b ma ms 0) (mk_b ma ms 1) (mk_b ma ms 2))) (hk1 : k = 103 ∨ k = 108) (hk2 : ¬ (k = 100 ∨ k = 112)) (hcut : cut = decide (k = 108)) (hof : ms 22 = 0 → ∃ O, ms 21 = nI O ∧ O < 4) (kt : ∀ (mb : Nat → Nat → Int32) (t9 : UInt32), mg_res h cut T (ms 19) c s R (ms 20) (ml_legs k a b c9 (ma 11 0) (ma 11 1) (ma 11 2) (mk_b ma ms 0) (mk_b ma ms 1) (mk_b ma ms 2)) ma mt = (true, mb, t9) → K (some (.int 1)) (am_W ha hz a1 s1 t1 a2 s2 t2 al (mg_fin k ma mb) ms t9 ol od)) (kf : ∀ (mb : Nat → Nat → Int32) (t9 : UInt32), mg_res h cut T (ms 19) c s R (ms 20) (ml_legs k a b c9 (ma 11 0) (ma 11 1) (ma 11 2) (mk_b ma ms 0) (mk_b ma ms 1) (mk_b ma ms 2)) ma mt = (false, mb, t9) → K (some (.int 0)) (am_W ha hz a1 s1 t1 a2 s2 t2 al mb ms t9 ol od)) : am_Run (d + 4) 124 [.ref 39, .int k, .int a, .int b, .int c9] (am_W ha hz a1 s1 t1 a2 s2 t2 al ma ms mt ol od) K := by
  refine ⟨rfl, fun P hm hP => ?_⟩
  show P 0 [some (.ref 39), some (.int k), some (.int a), some (.int b), some (.int c9), none, none, none] [] _ 0 0
  by_cases h22 : ms 22 = 0
  · obtain ⟨O, hO, hO4⟩ := hof h22
    have hlegs : (ml_legs k a b c9 (ma 11 0) (ma 11 1) (ma 11 2) (mk_b ma ms 0) (mk_b ma ms 1) (mk_b ma ms 2)) = [((ma 11 0), (ma 11 1), (ma 11 2), (a + ma 10 (3 * O) - (ma 11 0)), (b + ma 10 (3 * O + 1) - (ma 11 1)), (c9 + ma 10 (3 * O + 2) - (ma 11 2)))] := by
      rw [ml_legs, if_pos hk1]
      simp only [mk_b, if_pos h22, hO, nI_clamp (show O < 2 ^ 31 by omega), Nat.add_zero, mk_one, mg_r3]
    rw [hlegs] at hx kt kf
    have hx2 := hx
    refine s_iload_n hP t124_0 rfl ?_
    refine s_bipush (v := 100) hP t124_1 (by decide) ?_
    refine s_icmp_ne hP t124_3 (fun q3 => ?_) (fun q3 => ?_)
    · refine s_iload_n hP t124_13 rfl ?_
      refine s_bipush (v := 112) hP t124_14 (by decide) ?_
      refine s_icmp_ne hP t124_16 (fun q16 => ?_) (fun q16 => ?_)
      · refine s_aload_n hP t124_28 rfl ?_
        refine s_getfield hP t124_29 rfl rfl ?_
        refine s_if_eq hP t124_32 (fun q32 => ?_) (fun q32 => ?_)
        · refine s_iload_n hP t124_39 rfl ?_
          refine s_aload_n hP t124_40 rfl ?_
          refine s_getfield hP t124_41 rfl rfl ?_
          refine s_iconst (v := 3) hP t124_44 (by decide) ?_
          refine s_aload_n hP t124_45 rfl ?_
          refine s_getfield hP t124_46 rfl rfl ?_
          refine s_imul hP t124_49 ?_
          rw [show (3 : Int32) * ms 21 = nI (3 * O) by rw [hO, show (3 : Int32) = nI 3 from rfl, pk_mul]]
          refine s_iaload hP t124_50 rfl (vp_in_nI (by omega) (by decide)) ?_
          rw [nI_clamp (by omega)]
          refine s_iadd hP t124_51 ?_
          refine s_aload_n hP t124_52 rfl ?_
          refine s_getfield hP t124_53 rfl rfl ?_
          refine s_iconst (v := 0) hP t124_56 (by decide) ?_
          refine s_iaload hP t124_57 rfl (vp_in_nI (n := 0) (by decide) (by decide)) ?_
          rw [show (0 : Int32).toNatClampNeg = 0 from rfl]
          refine s_isub hP t124_58 ?_
          refine s_istore_5 hP t124_59 (by exact rfl) ?_
          refine s_aload_n hP t124_61 rfl ?_
          refine s_getfield hP t124_62 rfl rfl ?_
          refine s_if_eq hP t124_65 (fun q65 => ?_) (fun q65 => ?_)
          · refine s_iload_n hP t124_72 rfl ?_
            refine s_aload_n hP t124_73 rfl ?_
            refine s_getfield hP t124_74 rfl rfl ?_
            refine s_iconst (v := 3) hP t124_77 (by decide) ?_
            refine s_aload_n hP t124_78 rfl ?_
            refine s_getfield hP t124_79 rfl rfl ?_
            refine s_imul hP t124_82 ?_
            rw [show (3 : Int32) * ms 21 = nI (3 * O) by rw [hO, show (3 : Int32) = nI 3 from rfl, pk_mul]]
            refine s_iconst (v := 1) hP t124_83 (by decide) ?_
            refine s_iadd hP t124_84 ?_
            rw [show nI (3 * O) + 1 = nI (3 * O + 1) from nI_add (3 * O) 1]
            refine s_iaload hP t124_85 rfl (vp_in_nI (by omega) (by decide)) ?_
            rw [nI_clamp (by omega)]
            refine s_iadd hP t124_86 ?_
            refine s_aload_n hP t124_87 rfl ?_
            refine s_getfield hP t124_88 rfl rfl ?_
            refine s_iconst (v := 1) hP t124_91 (by decide) ?_
            refine s_iaload hP t124_92 rfl (vp_in_nI (n := 1) (by decide) (by decide)) ?_
            rw [show (1 : Int32).toNatClampNeg = 1 from rfl]
            refine s_isub hP t124_93 ?_
            refine s_istore_6 hP t124_94 (by exact rfl) ?_
            refine s_aload_n hP t124_96 rfl ?_
            refine s_getfield hP t124_97 rfl rfl ?_
            refine s_if_eq hP t124_100 (fun q100 => ?_) (fun q100 => ?_)
            · refine s_iload hP t124_108 rfl ?_
              refine s_aload_n hP t124_110 rfl ?_
              refine s_getfield hP t124_111 rfl rfl ?_
              refine s_iconst (v := 3) hP t124_114 (by decide) ?_
              refine s_aload_n hP t124_115 rfl ?_
              refine s_getfield hP t124_116 rfl rfl ?_
              refine s_imul hP t124_119 ?_
              rw [show (3 : Int32) * ms 21 = nI (3 * O) by rw [hO, show (3 : Int32) = nI 3 from rfl, pk_mul]]
              refine s_iconst (v := 2) hP t124_120 (by decide) ?_
              refine s_iadd hP t124_121 ?_
              rw [show nI (3 * O) + 2 = nI (3 * O + 2) from nI_add (3 * O) 2]
              refine s_iaload hP t124_122 rfl (vp_in_nI (by omega) (by decide)) ?_
              rw [nI_clamp (by omega)]
              refine s_iadd hP t124_123 ?_
              refine s_aload_n hP t124_124 rfl ?_
              refine s_getfield hP t124_125 rfl rfl ?_
              refine s_iconst (v := 2) hP t124_128 (by decide) ?_
              refine s_iaload hP t124_129 rfl (vp_in_nI (n := 2) (by decide) (by decide)) ?_
              rw [show (2 : Int32).toNatClampNeg = 2 from rfl]
              refine s_isub hP t124_130 ?_
              refine s_istore_7 hP t124_131 (by exact rfl) ?_
              refine s_aload_n hP t124_133 rfl ?_
              refine s_aload_n hP t124_134 rfl ?_
              refine s_getfield hP t124_135 rfl rfl ?_
              refine s_iconst (v := 0) hP t124_138 (by decide) ?_
              refine s_iaload hP t124_139 rfl (vp_in_nI (n := 0) (by decide) (by decide)) ?_
              rw [show (0 : Int32).toNatClampNeg = 0 from rfl]
              refine s_aload_n hP t124_140 rfl ?_
              refine s_getfield hP t124_141 rfl rfl ?_
              refine s_iconst (v := 1) hP t124_144 (by decide) ?_
              refine s_iaload hP t124_145 rfl (vp_in_nI (n := 1) (by decide) (by decide)) ?_
              rw [show (1 : Int32).toNatClampNeg = 1 from rfl]
              refine s_aload_n hP t124_146 rfl ?_
              refine s_getfield hP t124_147 rfl rfl ?_
              refine s_iconst (v := 2) hP t124_150 (by decide) ?_
              refine s_iaload hP t124_151 rfl (vp_in_nI (n := 2) (by decide) (by decide)) ?_
              rw [show (2 : Int32).toNatClampNeg = 2 from rfl]
              refine s_iload hP t124_152 rfl ?_
              refine s_iload hP t124_154 rfl ?_
              refine s_iload hP t124_156 rfl ?_
              refine s_iload_n hP t124_158 rfl ?_
              refine s_bipush (v := 108) hP t124_159 (by decide) ?_
              refine s_icmp_ne hP t124_161 (fun q161 => ?_) (fun q161 => ?_)
              · have e161 : (0 : Int32) = am_b cut := by rw [hcut, decide_eq_false q161]; rfl
                refine s_iconst (v := 0) hP t124_168 (by decide) ?_
                refine s_invokevirtual (bc' := 0) (bs' := 0) hP t124_169 rfl rfl rfl rfl rfl ?_
                rw [e161]
                refine sp121 (e := ((ma 11 0), (ma 11 1), (ma 11 2), (a + ma 10 (3 * O) - (ma 11 0)), (b + ma 10 (3 * O + 1) - (ma 11 1)), (c9 + ma 10 (3 * O + 2) - (ma 11 2)))) (r := []) (cut := cut) hx2 (fun hc2 hr2 => ?_) (fun hr2 => ?_)
                · have hfin : ∀ mb : Nat → Nat → Int32, mg_fin k ma mb = mb := fun mb => by rw [mg_fin, if_neg hk2]
                  have k9 := kt (mg_g h cut c s R ((ma 11 0), (ma 11 1), (ma 11 2), (a + ma 10 (3 * O) - (ma 11 0)), (b + ma 10 (3 * O + 1) - (ma 11 1)), (c9 + ma 10 (3 * O + 2) - (ma 11 2))) ma) (mg_t h cut (ms 20) ((ma 11 0), (ma 11 1), (ma 11 2), (a + ma 10 (3 * O) - (ma 11 0)), (b + ma 10 (3 * O + 1) - (ma 11 1)), (c9 + ma 10 (3 * O + 2) - (ma 11 2))) mt) (hr2.trans rfl)
                  rw [hfin] at k9
                  refine s_ireturn hP t124_172 rfl rfl ?_
                  exact k9
                · refine s_ireturn hP t124_172 rfl rfl ?_
                  exact kf _ _ hr2
              · have e161 : (1 : Int32) = am_b cut := by rw [hcut, decide_eq_true q161]; rfl
                refine s_iconst (v := 1) hP t124_164 (by decide) ?_
                refine s_goto hP t124_165 ?_
                refine s_invokevirtual (bc' := 0) (bs' := 0) hP t124_169 rfl rfl rfl rfl rfl ?_
                rw [e161]
                refine sp121 (e := ((ma 11 0), (ma 11 1), (ma 11 2), (a + ma 10 (3 * O) - (ma 11 0)), (b + ma 10 (3 * O + 1) - (ma 11 1)), (c9 + ma 10 (3 * O + 2) - (ma 11 2)))) (r := []) (cut := cut) hx2 (fun hc2 hr2 => ?_) (fun hr2 => ?_)
                · have hfin : ∀ mb : Nat → Nat → Int32, mg_fin k ma mb = mb := fun mb => by rw [mg_fin, if_neg hk2]
                  have k9 := kt (mg_g h cut c s R ((ma 11 0), (ma 11 1), (ma 11 2), (a + ma 10 (3 * O) - (ma 11 0)), (b + ma 10 (3 * O + 1) - (ma 11 1)), (c9 + ma 10 (3 * O + 2) - (ma 11 2))) ma) (mg_t h cut (ms 20) ((ma 11 0), (ma 11 1), (ma 11 2), (a + ma 10 (3 * O) - (ma 11 0)), (b + ma 10 (3 * O + 1) - (ma 11 1)), (c9 + ma 10 (3 * O + 2) - (ma 11 2))) mt) (hr2.trans rfl)
                  rw [hfin] at k9
                  refine s_ireturn hP t124_172 rfl rfl ?_
                  exact k9
                · refine s_ireturn hP t124_172 rfl rfl ?_
                  exact kf _ _ hr2
            · exact absurd h22 q100
          · exact absurd h22 q65
        · exact absurd h22 q32
      · exact absurd (Or.inr q16) hk2
    · exact absurd (Or.inl q3) hk2
  · have hlegs : (ml_legs k a b c9 (ma 11 0) (ma 11 1) (ma 11 2) (mk_b ma ms 0) (mk_b ma ms 1) (mk_b ma ms 2)) = [((ma 11 0), (ma 11 1), (ma 11 2), a, b, c9)] := by
      rw [ml_legs, if_pos hk1]
      simp only [mk_b, if_neg h22, mk_one, mg_r4]
    rw [hlegs] at hx kt kf
    have hx2 := hx
    refine s_iload_n hP t124_0 rfl ?_
    refine s_bipush (v := 100) hP t124_1 (by decide) ?_
    refine s_icmp_ne hP t124_3 (fun q3 => ?_) (fun q3 => ?_)
    · refine s_iload_n hP t124_13 rfl ?_
      refine s_bipush (v := 112) hP t124_14 (by decide) ?_
      refine s_icmp_ne hP t124_16 (fun q16 => ?_) (fun q16 => ?_)
      · refine s_aload_n hP t124_28 rfl ?_
        refine s_getfield hP t124_29 rfl rfl ?_
        refine s_if_eq hP t124_32 (fun q32 => ?_) (fun q32 => ?_)
        · exact absurd q32 h22
        · refine s_iload_n hP t124_35 rfl ?_
          refine s_goto hP t124_36 ?_
          refine s_istore_5 hP t124_59 (by exact rfl) ?_
          refine s_aload_n hP t124_61 rfl ?_
          refine s_getfield hP t124_62 rfl rfl ?_
          refine s_if_eq hP t124_65 (fun q65 => ?_) (fun q65 => ?_)
          · exact absurd q65 h22
          · refine s_iload_n hP t124_68 rfl ?_
            refine s_goto hP t124_69 ?_
            refine s_istore_6 hP t124_94 (by exact rfl) ?_
            refine s_aload_n hP t124_96 rfl ?_
            refine s_getfield hP t124_97 rfl rfl ?_
            refine s_if_eq hP t124_100 (fun q100 => ?_) (fun q100 => ?_)
            · exact absurd q100 h22
            · refine s_iload hP t124_103 rfl ?_
              refine s_goto hP t124_105 ?_
              refine s_istore_7 hP t124_131 (by exact rfl) ?_
              refine s_aload_n hP t124_133 rfl ?_
              refine s_aload_n hP t124_134 rfl ?_
              refine s_getfield hP t124_135 rfl rfl ?_
              refine s_iconst (v := 0) hP t124_138 (by decide) ?_
              refine s_iaload hP t124_139 rfl (vp_in_nI (n := 0) (by decide) (by decide)) ?_
              rw [show (0 : Int32).toNatClampNeg = 0 from rfl]
              refine s_aload_n hP t124_140 rfl ?_
              refine s_getfield hP t124_141 rfl rfl ?_
              refine s_iconst (v := 1) hP t124_144 (by decide) ?_
              refine s_iaload hP t124_145 rfl (vp_in_nI (n := 1) (by decide) (by decide)) ?_
              rw [show (1 : Int32).toNatClampNeg = 1 from rfl]
              refine s_aload_n hP t124_146 rfl ?_
              refine s_getfield hP t124_147 rfl rfl ?_
              refine s_iconst (v := 2) hP t124_150 (by decide) ?_
              refine s_iaload hP t124_151 rfl (vp_in_nI (n := 2) (by decide) (by decide)) ?_
              rw [show (2 : Int32).toNatClampNeg = 2 from rfl]
              refine s_iload hP t124_152 rfl ?_
              refine s_iload hP t124_154 rfl ?_
              refine s_iload hP t124_156 rfl ?_
              refine s_iload_n hP t124_158 rfl ?_
              refine s_bipush (v := 108) hP t124_159 (by decide) ?_
              refine s_icmp_ne hP t124_161 (fun q161 => ?_) (fun q161 => ?_)
              · have e161 : (0 : Int32) = am_b cut := by rw [hcut, decide_eq_false q161]; rfl
                refine s_iconst (v := 0) hP t124_168 (by decide) ?_
                refine s_invokevirtual (bc' := 0) (bs' := 0) hP t124_169 rfl rfl rfl rfl rfl ?_
                rw [e161]
                refine sp121 (e := ((ma 11 0), (ma 11 1), (ma 11 2), a, b, c9)) (r := []) (cut := cut) hx2 (fun hc2 hr2 => ?_) (fun hr2 => ?_)
                · have hfin : ∀ mb : Nat → Nat → Int32, mg_fin k ma mb = mb := fun mb => by rw [mg_fin, if_neg hk2]
                  have k9 := kt (mg_g h cut c s R ((ma 11 0), (ma 11 1), (ma 11 2), a, b, c9) ma) (mg_t h cut (ms 20) ((ma 11 0), (ma 11 1), (ma 11 2), a, b, c9) mt) (hr2.trans rfl)
                  rw [hfin] at k9
                  refine s_ireturn hP t124_172 rfl rfl ?_
                  exact k9
                · refine s_ireturn hP t124_172 rfl rfl ?_
                  exact kf _ _ hr2
              · have e161 : (1 : Int32) = am_b cut := by rw [hcut, decide_eq_true q161]; rfl
                refine s_iconst (v := 1) hP t124_164 (by decide) ?_
                refine s_goto hP t124_165 ?_
                refine s_invokevirtual (bc' := 0) (bs' := 0) hP t124_169 rfl rfl rfl rfl rfl ?_
                rw [e161]
                refine sp121 (e := ((ma 11 0), (ma 11 1), (ma 11 2), a, b, c9)) (r := []) (cut := cut) hx2 (fun hc2 hr2 => ?_) (fun hr2 => ?_)
                · have hfin : ∀ mb : Nat → Nat → Int32, mg_fin k ma mb = mb := fun mb => by rw [mg_fin, if_neg hk2]
                  have k9 := kt (mg_g h cut c s R ((ma 11 0), (ma 11 1), (ma 11 2), a, b, c9) ma) (mg_t h cut (ms 20) ((ma 11 0), (ma 11 1), (ma 11 2), a, b, c9) mt) (hr2.trans rfl)
                  rw [hfin] at k9
                  refine s_ireturn hP t124_172 rfl rfl ?_
                  exact k9
                · refine s_ireturn hP t124_172 rfl rfl ?_
                  exact kf _ _ hr2
      · exact absurd (Or.inr q16) hk2
    · exact absurd (Or.inl q3) hk2
