/-! FROM THE LAW'S ENTRY TO THE ABSTRACT MACHINE. (by gen/start.py) -/
theorem xm_in9 {L : List Jvm.Cond} (ps : List Nat) (h1 : L = ps.filterMap (fun i => tables_1[i]?)) (h2 : L.all goodWord = true) : ∀ w ∈ L, w ∈ am_ts := by
  intro w hw
  have hg := List.all_eq_true.mp h2 w hw
  rw [h1] at hw
  obtain ⟨i, -, hi⟩ := List.mem_filterMap.mp hw
  exact xm_tab1 hi hg
def xm_nn : Value → Bool
  | .null => true
  | v => !v.isRef
theorem xm_dfn {l : List Value} (h : l.all xm_nn = true) : ∀ v ∈ l, v.isRef = true → v = .null := by
  intro v hv hr
  have h1 := List.all_eq_true.mp h v hv
  cases v <;> first | rfl | (simp [Value.isRef] at hr; done) | (simp [xm_nn, Value.isRef] at h1; done)
theorem xk_u0 : ∀ w ∈ u_ws RX0 TX0 1, w ∈ am_ts := xm_in9 [67] (by decide +kernel) (by decide +kernel)
theorem xk_d0 : ∀ j, j < 1 → defaultValue (tyX0 j) = vp_V (am_df 0) j := fun j hj => by
  rcases (show j = 0 by omega) with rfl
  all_goals rfl
theorem xk_i0 : Jvm.Cond.instantiable RX0 1 ∈ am_ts := aw_61
theorem xk_u1 : ∀ w ∈ u_ws RX1 TX1 20, w ∈ am_ts := xm_in9 [209, 211, 213, 215, 217, 219, 221, 223, 225, 227, 229, 231, 233, 235, 237, 239, 241, 243, 245, 247] (by decide +kernel) (by decide +kernel)
theorem xk_d1 : ∀ j, j < 20 → defaultValue (tyX1 j) = vp_V (am_df 1) j := fun j hj => by
  rcases (show j = 0 ∨ j = 1 ∨ j = 2 ∨ j = 3 ∨ j = 4 ∨ j = 5 ∨ j = 6 ∨ j = 7 ∨ j = 8 ∨ j = 9 ∨ j = 10 ∨ j = 11 ∨ j = 12 ∨ j = 13 ∨ j = 14 ∨ j = 15 ∨ j = 16 ∨ j = 17 ∨ j = 18 ∨ j = 19 by omega) with rfl | rfl | rfl | rfl | rfl | rfl | rfl | rfl | rfl | rfl | rfl | rfl | rfl | rfl | rfl | rfl | rfl | rfl | rfl | rfl
  all_goals rfl
theorem xk_i1 : Jvm.Cond.instantiable RX1 20 ∈ am_ts := aw_123
theorem xk_u2 : ∀ w ∈ u_ws RX2 TX2 4, w ∈ am_ts := xm_in9 [113, 115, 117, 119] (by decide +kernel) (by decide +kernel)
theorem xk_d2 : ∀ j, j < 4 → defaultValue (tyX2 j) = vp_V (am_df 2) j := fun j hj => by
  rcases (show j = 0 ∨ j = 1 ∨ j = 2 ∨ j = 3 by omega) with rfl | rfl | rfl | rfl
  all_goals rfl
theorem xk_i2 : Jvm.Cond.instantiable RX2 4 ∈ am_ts := aw_34
theorem xk_u3 : ∀ w ∈ u_ws RX3 TX3 4, w ∈ am_ts := xm_in9 [141, 143, 145, 147] (by decide +kernel) (by decide +kernel)
theorem xk_d3 : ∀ j, j < 4 → defaultValue (tyX3 j) = vp_V (am_df 3) j := fun j hj => by
  rcases (show j = 0 ∨ j = 1 ∨ j = 2 ∨ j = 3 by omega) with rfl | rfl | rfl | rfl
  all_goals rfl
theorem xk_i3 : Jvm.Cond.instantiable RX3 4 ∈ am_ts := aw_131
theorem xk_u4 : ∀ w ∈ u_ws RX4 TX4 6, w ∈ am_ts := xm_in9 [88, 90, 92, 94, 96, 98] (by decide +kernel) (by decide +kernel)
theorem xk_d4 : ∀ j, j < 6 → defaultValue (tyX4 j) = vp_V (am_df 4) j := fun j hj => by
  rcases (show j = 0 ∨ j = 1 ∨ j = 2 ∨ j = 3 ∨ j = 4 ∨ j = 5 by omega) with rfl | rfl | rfl | rfl | rfl | rfl
  all_goals rfl
theorem xk_i4 : Jvm.Cond.instantiable RX4 6 ∈ am_ts := aw_71
theorem xk_u5 : ∀ w ∈ u_ws RX5 TX5 3, w ∈ am_ts := xm_in9 [51, 53, 55] (by decide +kernel) (by decide +kernel)
theorem xk_d5 : ∀ j, j < 3 → defaultValue (tyX5 j) = vp_V (am_df 5) j := fun j hj => by
  rcases (show j = 0 ∨ j = 1 ∨ j = 2 by omega) with rfl | rfl | rfl
  all_goals rfl
theorem xk_i5 : Jvm.Cond.instantiable RX5 3 ∈ am_ts := aw_40
theorem xk_u6 : ∀ w ∈ u_ws RX6 TX6 5, w ∈ am_ts := xm_in9 [161, 163, 165, 167, 169] (by decide +kernel) (by decide +kernel)
theorem xk_d6 : ∀ j, j < 5 → defaultValue (tyX6 j) = vp_V (am_df 6) j := fun j hj => by
  rcases (show j = 0 ∨ j = 1 ∨ j = 2 ∨ j = 3 ∨ j = 4 by omega) with rfl | rfl | rfl | rfl | rfl
  all_goals rfl
theorem xk_i6 : Jvm.Cond.instantiable RX6 5 ∈ am_ts := aw_151
theorem xk_u7 : ∀ w ∈ u_ws RX7 TX7 4, w ∈ am_ts := xm_in9 [254, 256, 258, 260] (by decide +kernel) (by decide +kernel)
theorem xk_d7 : ∀ j, j < 4 → defaultValue (tyX7 j) = vp_V (am_df 7) j := fun j hj => by
  rcases (show j = 0 ∨ j = 1 ∨ j = 2 ∨ j = 3 by omega) with rfl | rfl | rfl | rfl
  all_goals rfl
theorem xk_i7 : Jvm.Cond.instantiable RX7 4 ∈ am_ts := bw_26
theorem xk_u8 : ∀ w ∈ u_ws RX8 TX8 27, w ∈ am_ts := xm_in9 [949, 951, 953, 955, 957, 959, 961, 963, 965, 967, 969, 971, 973, 975, 977, 979, 981, 983, 985, 987, 989, 991, 993, 995, 997, 999, 1001] (by decide +kernel) (by decide +kernel)
theorem xk_d8 : ∀ j, j < 27 → defaultValue (tyX8 j) = vp_V (am_df 8) j := fun j hj => by
  rcases (show j = 0 ∨ j = 1 ∨ j = 2 ∨ j = 3 ∨ j = 4 ∨ j = 5 ∨ j = 6 ∨ j = 7 ∨ j = 8 ∨ j = 9 ∨ j = 10 ∨ j = 11 ∨ j = 12 ∨ j = 13 ∨ j = 14 ∨ j = 15 ∨ j = 16 ∨ j = 17 ∨ j = 18 ∨ j = 19 ∨ j = 20 ∨ j = 21 ∨ j = 22 ∨ j = 23 ∨ j = 24 ∨ j = 25 ∨ j = 26 by omega) with rfl | rfl | rfl | rfl | rfl | rfl | rfl | rfl | rfl | rfl | rfl | rfl | rfl | rfl | rfl | rfl | rfl | rfl | rfl | rfl | rfl | rfl | rfl | rfl | rfl | rfl | rfl
  all_goals rfl
theorem xk_i8 : Jvm.Cond.instantiable RX8 27 ∈ am_ts := bw_913
theorem xm_okC_all : am_okC am_cl9 am_ts am_ft am_df := by
  intro ci C T N h
  match ci, h with
  | 0, h => cases h; exact ⟨xk_u0, tyX0_ok, nmX0, xk_d0, xm_dfn (by decide +kernel)⟩
  | 1, h => cases h; exact ⟨xk_u1, tyX1_ok, nmX1, xk_d1, xm_dfn (by decide +kernel)⟩
  | 2, h => cases h; exact ⟨xk_u2, tyX2_ok, nmX2, xk_d2, xm_dfn (by decide +kernel)⟩
  | 3, h => cases h; exact ⟨xk_u3, tyX3_ok, nmX3, xk_d3, xm_dfn (by decide +kernel)⟩
  | 4, h => cases h; exact ⟨xk_u4, tyX4_ok, nmX4, xk_d4, xm_dfn (by decide +kernel)⟩
  | 5, h => cases h; exact ⟨xk_u5, tyX5_ok, nmX5, xk_d5, xm_dfn (by decide +kernel)⟩
  | 6, h => cases h; exact ⟨xk_u6, tyX6_ok, nmX6, xk_d6, xm_dfn (by decide +kernel)⟩
  | 7, h => cases h; exact ⟨xk_u7, tyX7_ok, nmX7, xk_d7, xm_dfn (by decide +kernel)⟩
  | 8, h => cases h; exact ⟨xk_u8, tyX8_ok, nmX8, xk_d8, xm_dfn (by decide +kernel)⟩
  | k + 9, h => simp [am_cl9] at h
theorem xm_inst : ∀ (ci : Nat) (C : String) (T : u_T) (N : Nat), am_cl9[ci]? = some (C, T, N) → Jvm.Cond.instantiable C N ∈ am_ts := by
  intro ci C T N h
  match ci, h with
  | 0, h => cases h; exact xk_i0
  | 1, h => cases h; exact xk_i1
  | 2, h => cases h; exact xk_i2
  | 3, h => cases h; exact xk_i3
  | 4, h => cases h; exact xk_i4
  | 5, h => cases h; exact xk_i5
  | 6, h => cases h; exact xk_i6
  | 7, h => cases h; exact xk_i7
  | 8, h => cases h; exact xk_i8
  | k + 9, h => simp [am_cl9] at h
theorem xl_known {s : State} {args : Array Value} (hts : ∀ w ∈ am_ts, w.before args s = true) : ∃ D : va_G, ∀ (k : Nat) (q : vw_C), am_cl9[k]? = some q → u_Kn s q.1 q.2.1 q.2.2 (D.1 k) (D.2 k) := by
  have h : ∀ k : Nat, ∃ z : ClassId × (Nat → Nat), ∀ q : vw_C, am_cl9[k]? = some q → u_Kn s q.1 q.2.1 q.2.2 z.1 z.2 := by
    intro k
    cases h9 : am_cl9[k]? with
    | none =>
      obtain ⟨c0, i0, -⟩ := u_known (n := 1) hts (xm_okC_all 0 RX0 TX0 1 rfl).1 (hts _ (xm_inst 0 RX0 TX0 1 rfl))
      exact ⟨(c0, i0), fun q hq => by cases hq⟩
    | some q =>
      obtain ⟨C, T, N⟩ := q
      obtain ⟨c0, i0, hk⟩ := u_known hts (xm_okC_all k C T N h9).1 (hts _ (xm_inst k C T N h9))
      exact ⟨(c0, i0), fun q hq => by cases hq; exact hk⟩
  exact ⟨(fun k => (Classical.choose (h k)).1, fun k => (Classical.choose (h k)).2), fun k q hq => Classical.choose_spec (h k) q hq⟩
theorem xl_arr {s : State} {args : Array Value} {ty : FieldType} (h : (Jvm.Cond.arrayClass ty).before args s = true) (hn : ∀ C, ty ≠ .object C) : ∃ c : ClassId, ArrOfT s c ty ∧ va_RA s c ty := by
  obtain ⟨c, k, comp, h1, h2, h3⟩ := Cond.arrayClass_spec h
  refine ⟨c, fun n z => ⟨fun k h => (by cases h), k, h2, comp, h3⟩, ?_⟩
  cases ty <;> first | exact h1 | exact absurd rfl (hn _)
theorem xl_arrs {s : State} {args : Array Value} (hts : ∀ w ∈ am_ts, w.before args s = true) : ∃ cA : Nat → ClassId, ∀ (k : Nat) (q : ClassId × FieldType), (am_tys cA)[k]? = some q → ArrOfT s q.1 q.2 ∧ va_RA s q.1 q.2 := by
  obtain ⟨c0, h0⟩ := xl_arr (ty := .int) (hts _ aw_59) (fun _ q => by cases q)
  obtain ⟨c1, h1⟩ := xl_arr (ty := .char) (hts _ aw_58) (fun _ q => by cases q)
  obtain ⟨c2, h2⟩ := xl_arr (ty := .boolean) (hts _ aw_1004) (fun _ q => by cases q)
  obtain ⟨c3, h3⟩ := xl_arr (ty := .long) (hts _ bw_1242) (fun _ q => by cases q)
  obtain ⟨c4, h4⟩ := xl_arr (ty := .double) (hts _ bw_1243) (fun _ q => by cases q)
  refine ⟨fun k => match k with | 0 => c0 | 1 => c1 | 2 => c2 | 3 => c3 | _ => c4, fun k q hq => ?_⟩
  match k, hq with
  | 0, hq => cases hq; exact h0
  | 1, hq => cases hq; exact h1
  | 2, hq => cases hq; exact h2
  | 3, hq => cases hq; exact h3
  | 4, hq => cases hq; exact h4
  | k + 5, hq => simp [am_tys] at hq
theorem xl_roots {s : State} {args : Array Value} {A : Nat → Prop} (hs : ∀ w ∈ flatC (Jvm.Cond.and given_1 narrow_1), w.before args s = true) (hA : ∀ a : Nat, a < s.heap.size → ¬ A a) : ∃ t : Nat, (Jvm.Term.static "ToolrestMill" "ROOTS" "[I").eval args s none [] s = some (.ref t) ∧ va_T .int t 10 (fun j => .int (am_roots j)) A s s.heap := by
  refine va_Tof (N := 10) (by decide) (hs _ (by decide +kernel)) (va_eqt (z := 10) (hs _ (by decide +kernel))) (fun j hj => ?_) hA
  rcases (show j = 0 ∨ j = 1 ∨ j = 2 ∨ j = 3 ∨ j = 4 ∨ j = 5 ∨ j = 6 ∨ j = 7 ∨ j = 8 ∨ j = 9 by omega) with rfl | rfl | rfl | rfl | rfl | rfl | rfl | rfl | rfl | rfl
  · exact va_eqt (z := 0) (hs (Jvm.Cond.eq (Jvm.Term.elem (Jvm.Term.static "ToolrestMill" "ROOTS" "[I") (Jvm.Term.int (0 : Int32))) (Jvm.Term.int (0 : Int32))) (by decide +kernel))
  · exact va_eqt (z := 1) (hs (Jvm.Cond.eq (Jvm.Term.elem (Jvm.Term.static "ToolrestMill" "ROOTS" "[I") (Jvm.Term.int (1 : Int32))) (Jvm.Term.int (1 : Int32))) (by decide +kernel))
  · exact va_eqt (z := 1) (hs (Jvm.Cond.eq (Jvm.Term.elem (Jvm.Term.static "ToolrestMill" "ROOTS" "[I") (Jvm.Term.int (2 : Int32))) (Jvm.Term.int (1 : Int32))) (by decide +kernel))
  · exact va_eqt (z := 1) (hs (Jvm.Cond.eq (Jvm.Term.elem (Jvm.Term.static "ToolrestMill" "ROOTS" "[I") (Jvm.Term.int (3 : Int32))) (Jvm.Term.int (1 : Int32))) (by decide +kernel))
  · exact va_eqt (z := 2) (hs (Jvm.Cond.eq (Jvm.Term.elem (Jvm.Term.static "ToolrestMill" "ROOTS" "[I") (Jvm.Term.int (4 : Int32))) (Jvm.Term.int (2 : Int32))) (by decide +kernel))
  · exact va_eqt (z := 2) (hs (Jvm.Cond.eq (Jvm.Term.elem (Jvm.Term.static "ToolrestMill" "ROOTS" "[I") (Jvm.Term.int (5 : Int32))) (Jvm.Term.int (2 : Int32))) (by decide +kernel))
  · exact va_eqt (z := 2) (hs (Jvm.Cond.eq (Jvm.Term.elem (Jvm.Term.static "ToolrestMill" "ROOTS" "[I") (Jvm.Term.int (6 : Int32))) (Jvm.Term.int (2 : Int32))) (by decide +kernel))
  · exact va_eqt (z := 2) (hs (Jvm.Cond.eq (Jvm.Term.elem (Jvm.Term.static "ToolrestMill" "ROOTS" "[I") (Jvm.Term.int (7 : Int32))) (Jvm.Term.int (2 : Int32))) (by decide +kernel))
  · exact va_eqt (z := 2) (hs (Jvm.Cond.eq (Jvm.Term.elem (Jvm.Term.static "ToolrestMill" "ROOTS" "[I") (Jvm.Term.int (8 : Int32))) (Jvm.Term.int (2 : Int32))) (by decide +kernel))
  · exact va_eqt (z := 3) (hs (Jvm.Cond.eq (Jvm.Term.elem (Jvm.Term.static "ToolrestMill" "ROOTS" "[I") (Jvm.Term.int (9 : Int32))) (Jvm.Term.int (3 : Int32))) (by decide +kernel))
theorem xl_kinds {s : State} {args : Array Value} {A : Nat → Prop} (hs : ∀ w ∈ flatC (Jvm.Cond.and given_1 narrow_1), w.before args s = true) (hA : ∀ a : Nat, a < s.heap.size → ¬ A a) : ∃ t : Nat, (Jvm.Term.static "ToolrestMill" "KINDS" "[C").eval args s none [] s = some (.ref t) ∧ va_T .char t 15 (fun j => .int (am_kinds j)) A s s.heap := by
  refine va_Tof (N := 15) (by decide) (hs _ (by decide +kernel)) (va_eqt (z := 15) (hs _ (by decide +kernel))) (fun j hj => ?_) hA
  rcases (show j = 0 ∨ j = 1 ∨ j = 2 ∨ j = 3 ∨ j = 4 ∨ j = 5 ∨ j = 6 ∨ j = 7 ∨ j = 8 ∨ j = 9 ∨ j = 10 ∨ j = 11 ∨ j = 12 ∨ j = 13 ∨ j = 14 by omega) with rfl | rfl | rfl | rfl | rfl | rfl | rfl | rfl | rfl | rfl | rfl | rfl | rfl | rfl | rfl
  · exact va_eqt (z := 103) (hs (Jvm.Cond.eq (Jvm.Term.elem (Jvm.Term.static "ToolrestMill" "KINDS" "[C") (Jvm.Term.int (0 : Int32))) (Jvm.Term.int (103 : Int32))) (by decide +kernel))
  · exact va_eqt (z := 108) (hs (Jvm.Cond.eq (Jvm.Term.elem (Jvm.Term.static "ToolrestMill" "KINDS" "[C") (Jvm.Term.int (1 : Int32))) (Jvm.Term.int (108 : Int32))) (by decide +kernel))
  · exact va_eqt (z := 100) (hs (Jvm.Cond.eq (Jvm.Term.elem (Jvm.Term.static "ToolrestMill" "KINDS" "[C") (Jvm.Term.int (2 : Int32))) (Jvm.Term.int (100 : Int32))) (by decide +kernel))
  · exact va_eqt (z := 112) (hs (Jvm.Cond.eq (Jvm.Term.elem (Jvm.Term.static "ToolrestMill" "KINDS" "[C") (Jvm.Term.int (3 : Int32))) (Jvm.Term.int (112 : Int32))) (by decide +kernel))
  · exact va_eqt (z := 116) (hs (Jvm.Cond.eq (Jvm.Term.elem (Jvm.Term.static "ToolrestMill" "KINDS" "[C") (Jvm.Term.int (4 : Int32))) (Jvm.Term.int (116 : Int32))) (by decide +kernel))
  · exact va_eqt (z := 115) (hs (Jvm.Cond.eq (Jvm.Term.elem (Jvm.Term.static "ToolrestMill" "KINDS" "[C") (Jvm.Term.int (5 : Int32))) (Jvm.Term.int (115 : Int32))) (by decide +kernel))
  · exact va_eqt (z := 102) (hs (Jvm.Cond.eq (Jvm.Term.elem (Jvm.Term.static "ToolrestMill" "KINDS" "[C") (Jvm.Term.int (6 : Int32))) (Jvm.Term.int (102 : Int32))) (by decide +kernel))
  · exact va_eqt (z := 109) (hs (Jvm.Cond.eq (Jvm.Term.elem (Jvm.Term.static "ToolrestMill" "KINDS" "[C") (Jvm.Term.int (7 : Int32))) (Jvm.Term.int (109 : Int32))) (by decide +kernel))
  · exact va_eqt (z := 111) (hs (Jvm.Cond.eq (Jvm.Term.elem (Jvm.Term.static "ToolrestMill" "KINDS" "[C") (Jvm.Term.int (8 : Int32))) (Jvm.Term.int (111 : Int32))) (by decide +kernel))
  · exact va_eqt (z := 118) (hs (Jvm.Cond.eq (Jvm.Term.elem (Jvm.Term.static "ToolrestMill" "KINDS" "[C") (Jvm.Term.int (9 : Int32))) (Jvm.Term.int (118 : Int32))) (by decide +kernel))
  · exact va_eqt (z := 120) (hs (Jvm.Cond.eq (Jvm.Term.elem (Jvm.Term.static "ToolrestMill" "KINDS" "[C") (Jvm.Term.int (10 : Int32))) (Jvm.Term.int (120 : Int32))) (by decide +kernel))
  · exact va_eqt (z := 114) (hs (Jvm.Cond.eq (Jvm.Term.elem (Jvm.Term.static "ToolrestMill" "KINDS" "[C") (Jvm.Term.int (11 : Int32))) (Jvm.Term.int (114 : Int32))) (by decide +kernel))
  · exact va_eqt (z := 105) (hs (Jvm.Cond.eq (Jvm.Term.elem (Jvm.Term.static "ToolrestMill" "KINDS" "[C") (Jvm.Term.int (12 : Int32))) (Jvm.Term.int (105 : Int32))) (by decide +kernel))
  · exact va_eqt (z := 101) (hs (Jvm.Cond.eq (Jvm.Term.elem (Jvm.Term.static "ToolrestMill" "KINDS" "[C") (Jvm.Term.int (13 : Int32))) (Jvm.Term.int (101 : Int32))) (by decide +kernel))
  · exact va_eqt (z := 113) (hs (Jvm.Cond.eq (Jvm.Term.elem (Jvm.Term.static "ToolrestMill" "KINDS" "[C") (Jvm.Term.int (14 : Int32))) (Jvm.Term.int (113 : Int32))) (by decide +kernel))
theorem xl_str {s : State} {args : Array Value} {own tx : String} {k : Nat} {cls9 : ClassId} (hcl : s.vm.findClass own = some cls9) (h : (Jvm.Cond.stringRef own k tx).before args s = true) : ∃ a, vk_R own k tx a s := by
  have h1 : (Jvm.Cond.stringRef own k tx).before #[] s = true := h
  obtain ⟨-, -, -, a, -, -, -, -, -, hev⟩ := Cond.stringRef_spec (args := #[]) (first := s) (o := none) (idx := []) hcl h1
  exact ⟨a, vk_R.of h1 hev⟩
theorem xl_Z {s : State} {args : Array Value} {A : Nat → Prop} {D : va_G} {cls9 : ClassId} (hlt : ∀ w ∈ lw_tbl, w.before args s = true) (hs : ∀ w ∈ flatC (Jvm.Cond.and given_1 narrow_1), w.before args s = true) (hA : ∀ a : Nat, a < s.heap.size → ¬ A a) (hcl : s.vm.findClass "ToolrestMill" = some cls9) : xm_Z xm_xn xm_xnc xm_strs A s s.heap := by
  refine ⟨?_, ?_, vx_Zqof (hlt _ (List.mem_append_right _ (List.mem_of_getElem? (i := 594) (by decide +kernel)))) (hlt _ (List.mem_append_right _ (List.mem_of_getElem? (i := 10) (by decide +kernel)))) (hs _ (by decide +kernel)) hA, vx_Zqof (hlt _ (List.mem_append_right _ (List.mem_of_getElem? (i := 596) (by decide +kernel)))) (hlt _ (List.mem_append_right _ (List.mem_of_getElem? (i := 10) (by decide +kernel)))) (hs _ (by decide +kernel)) hA, ?_⟩
  · exact List.forall_mem_cons.mpr ⟨va_Nw.of rfl (hlt _ (List.mem_append_right _ (List.mem_of_getElem? (i := 635) (by decide +kernel)))), List.forall_mem_cons.mpr ⟨va_Nw.of rfl (hlt _ (List.mem_append_right _ (List.mem_of_getElem? (i := 637) (by decide +kernel)))), List.forall_mem_cons.mpr ⟨va_Nw.of rfl (hlt _ (List.mem_append_right _ (List.mem_of_getElem? (i := 639) (by decide +kernel)))), List.forall_mem_cons.mpr ⟨va_Nw.of rfl (hlt _ (List.mem_append_right _ (List.mem_of_getElem? (i := 665) (by decide +kernel)))), List.forall_mem_cons.mpr ⟨va_Nw.of rfl (hlt _ (List.mem_append_right _ (List.mem_of_getElem? (i := 681) (by decide +kernel)))), List.forall_mem_cons.mpr ⟨va_Nw.of rfl (hlt _ (List.mem_append_right _ (List.mem_of_getElem? (i := 701) (by decide +kernel)))), List.forall_mem_cons.mpr ⟨va_Nw.of rfl (hlt _ (List.mem_append_right _ (List.mem_of_getElem? (i := 778) (by decide +kernel)))), List.forall_mem_cons.mpr ⟨va_Nw.of rfl (hlt _ (List.mem_append_right _ (List.mem_of_getElem? (i := 853) (by decide +kernel)))), List.forall_mem_cons.mpr ⟨va_Nw.of rfl (hlt _ (List.mem_append_right _ (List.mem_of_getElem? (i := 903) (by decide +kernel)))), fun _ h => absurd h List.not_mem_nil⟩⟩⟩⟩⟩⟩⟩⟩⟩
  · exact List.forall_mem_cons.mpr ⟨va_Nc.of (hs (Jvm.Cond.not (Jvm.Cond.castable "java/lang/UnsupportedOperationException" "java/lang/IndexOutOfBoundsException")) (by decide +kernel)), List.forall_mem_cons.mpr ⟨va_Nc.of (hs (Jvm.Cond.not (Jvm.Cond.castable "java/lang/UnsupportedOperationException" "java/lang/IllegalArgumentException")) (by decide +kernel)), List.forall_mem_cons.mpr ⟨va_Nc.of (hs (Jvm.Cond.not (Jvm.Cond.castable "java/lang/IllegalArgumentException" "java/lang/IndexOutOfBoundsException")) (by decide +kernel)), List.forall_mem_cons.mpr ⟨va_Nc.of (hs (Jvm.Cond.not (Jvm.Cond.castable "java/lang/IllegalStateException" "java/lang/IllegalArgumentException")) (by decide +kernel)), List.forall_mem_cons.mpr ⟨va_Nc.of (hs (Jvm.Cond.not (Jvm.Cond.castable "java/util/NoSuchElementException" "java/lang/IndexOutOfBoundsException")) (by decide +kernel)), fun _ h => absurd h List.not_mem_nil⟩⟩⟩⟩⟩
  · exact List.forall_mem_cons.mpr ⟨xl_str hcl (hlt _ (List.mem_append_right _ (List.mem_of_getElem? (i := 738) (by decide +kernel)))), List.forall_mem_cons.mpr ⟨xl_str hcl (hlt _ (List.mem_append_right _ (List.mem_of_getElem? (i := 672) (by decide +kernel)))), List.forall_mem_cons.mpr ⟨xl_str hcl (hlt _ (List.mem_append_right _ (List.mem_of_getElem? (i := 688) (by decide +kernel)))), List.forall_mem_cons.mpr ⟨xl_str hcl (hlt _ (List.mem_append_right _ (List.mem_of_getElem? (i := 695) (by decide +kernel)))), List.forall_mem_cons.mpr ⟨xl_str hcl (hlt _ (List.mem_append_right _ (List.mem_of_getElem? (i := 708) (by decide +kernel)))), List.forall_mem_cons.mpr ⟨xl_str hcl (hlt _ (List.mem_append_right _ (List.mem_of_getElem? (i := 758) (by decide +kernel)))), List.forall_mem_cons.mpr ⟨xl_str hcl (hlt _ (List.mem_append_right _ (List.mem_of_getElem? (i := 775) (by decide +kernel)))), List.forall_mem_cons.mpr ⟨xl_str hcl (hlt _ (List.mem_append_right _ (List.mem_of_getElem? (i := 785) (by decide +kernel)))), List.forall_mem_cons.mpr ⟨xl_str hcl (hlt _ (List.mem_append_right _ (List.mem_of_getElem? (i := 807) (by decide +kernel)))), List.forall_mem_cons.mpr ⟨xl_str hcl (hlt _ (List.mem_append_right _ (List.mem_of_getElem? (i := 819) (by decide +kernel)))), List.forall_mem_cons.mpr ⟨xl_str hcl (hlt _ (List.mem_append_right _ (List.mem_of_getElem? (i := 820) (by decide +kernel)))), List.forall_mem_cons.mpr ⟨xl_str hcl (hlt _ (List.mem_append_right _ (List.mem_of_getElem? (i := 833) (by decide +kernel)))), List.forall_mem_cons.mpr ⟨xl_str hcl (hlt _ (List.mem_append_right _ (List.mem_of_getElem? (i := 841) (by decide +kernel)))), List.forall_mem_cons.mpr ⟨xl_str hcl (hlt _ (List.mem_append_right _ (List.mem_of_getElem? (i := 860) (by decide +kernel)))), List.forall_mem_cons.mpr ⟨xl_str hcl (hlt _ (List.mem_append_right _ (List.mem_of_getElem? (i := 910) (by decide +kernel)))), fun _ h => absurd h List.not_mem_nil⟩⟩⟩⟩⟩⟩⟩⟩⟩⟩⟩⟩⟩⟩⟩
theorem xl_nest {s : State} {args : Array Value} (hlt : ∀ w ∈ lw_tbl, w.before args s = true) : ∀ w ∈ am_nest, va_Nw w s := by
  refine List.forall_mem_cons.mpr ⟨va_Nw.of rfl (hlt _ (List.mem_append_right _ (List.mem_of_getElem? (i := 35) (by decide +kernel)))), List.forall_mem_cons.mpr ⟨va_Nw.of rfl (hlt _ (List.mem_append_right _ (List.mem_of_getElem? (i := 41) (by decide +kernel)))), List.forall_mem_cons.mpr ⟨va_Nw.of rfl (hlt _ (List.mem_append_right _ (List.mem_of_getElem? (i := 62) (by decide +kernel)))), List.forall_mem_cons.mpr ⟨va_Nw.of rfl (hlt _ (List.mem_append_right _ (List.mem_of_getElem? (i := 72) (by decide +kernel)))), List.forall_mem_cons.mpr ⟨va_Nw.of rfl (hlt _ (List.mem_append_right _ (List.mem_of_getElem? (i := 129) (by decide +kernel)))), List.forall_mem_cons.mpr ⟨va_Nw.of rfl (hlt _ (List.mem_append_right _ (List.mem_of_getElem? (i := 132) (by decide +kernel)))), List.forall_mem_cons.mpr ⟨va_Nw.of rfl (hlt _ (List.mem_append_right _ (List.mem_of_getElem? (i := 152) (by decide +kernel)))), List.forall_mem_cons.mpr ⟨va_Nw.of rfl (hlt _ (List.mem_append_right _ (List.mem_of_getElem? (i := 279) (by decide +kernel)))), List.forall_mem_cons.mpr ⟨va_Nw.of rfl (hlt _ (List.mem_append_right _ (List.mem_of_getElem? (i := 371) (by decide +kernel)))), List.forall_mem_cons.mpr ⟨va_Nw.of rfl (hlt _ (List.mem_append_right _ (List.mem_of_getElem? (i := 376) (by decide +kernel)))), List.forall_mem_cons.mpr ⟨va_Nw.of rfl (hlt _ (List.mem_append_right _ (List.mem_of_getElem? (i := 380) (by decide +kernel)))), List.forall_mem_cons.mpr ⟨va_Nw.of rfl (hlt _ (List.mem_append_right _ (List.mem_of_getElem? (i := 387) (by decide +kernel)))), List.forall_mem_cons.mpr ⟨va_Nw.of rfl (hlt _ (List.mem_append_right _ (List.mem_of_getElem? (i := 456) (by decide +kernel)))), List.forall_mem_cons.mpr ⟨va_Nw.of rfl (hlt _ (List.mem_append_right _ (List.mem_of_getElem? (i := 467) (by decide +kernel)))), List.forall_mem_cons.mpr ⟨va_Nw.of rfl (hlt _ (List.mem_append_right _ (List.mem_of_getElem? (i := 510) (by decide +kernel)))), List.forall_mem_cons.mpr ⟨va_Nw.of rfl (hlt _ (List.mem_append_right _ (List.mem_of_getElem? (i := 743) (by decide +kernel)))), fun _ h => absurd h List.not_mem_nil⟩⟩⟩⟩⟩⟩⟩⟩⟩⟩⟩⟩⟩⟩⟩⟩
theorem xl_okH {cl : List vw_C} {sts : List (String × String × String)} {y y' : MethodName} {Ts nest : List Jvm.Cond} {ins : Instr} {r1 r2 : Nat} (hy : y.cls = y'.cls) (hn : ¬ y.name = "<init>") (h : am_okH cl sts y Ts nest ins r1 r2) : am_okH cl sts y' Ts nest ins r1 r2 := by
  obtain ⟨c, n, d⟩ := y
  obtain ⟨c', n', d'⟩ := y'
  have hy : c = c' := hy
  subst hy
  cases ins
  case putfield i =>
    obtain ⟨C, T, N, g1, g2, g3, g4⟩ := h
    exact ⟨C, T, N, g1, g2, g3, Or.inl (g4.resolve_right (fun q => hn q.2.2))⟩
  all_goals exact h
theorem xl_ok {cl : List vw_C} {sts : List (String × String × String)} {Ts nest xn : List Jvm.Cond} {xnc : List (String × String)} {strs : List (String × Nat × String)} {G : Nat → am_M} {nM : Nat} {XG : Nat → xm_M} {nX pc : Nat} {M : xm_M} {w : am_R} {y' : MethodName} (hy : M.1.1.cls = y'.cls) (hn : ¬ M.1.1.name = "<init>") (hd : M.2.1 = []) (hh : M.2.2 = []) (h : xm_okR cl sts Ts nest xn xnc strs G nM XG nX M pc w) : w.1 = .nop ∨ xm_okN cl sts Ts nest G nM y' M.1.2.1 pc w ∨ (w.1 = .athrow ∧ xm_okT Ts xn strs [] y'.cls M.1.2.1 pc w.2.2.1) ∨ (xm_okI cl Ts XG nX y' M.1.2.1 pc w ∧ ∀ q ∈ ([] : List (Nat × Int32)), xm_okC Ts xn xnc [] M.1.2.2.2.1 M.1.2.2.1 y'.cls M.1.2.1 pc q) := by
  rcases h with h | ⟨h0, len, h1, h2, h3, h4, h5, h6⟩ | ⟨h0, h1⟩ | ⟨h0, h1⟩
  · exact Or.inl h
  · exact Or.inr (Or.inl ⟨h0, len, h1, h2, h3, by rw [← hy]; exact h4, xl_okH hy hn h5, by unfold am_okI at h6 ⊢; rw [← hy]; exact h6⟩)
  · exact Or.inr (Or.inr (Or.inl ⟨h0, by rw [← hy, ← hh]; exact h1⟩))
  · exact Or.inr (Or.inr (Or.inr ⟨by unfold xm_okI at h0 ⊢; rw [← hy]; exact h0, fun q hq => absurd hq List.not_mem_nil⟩))
def xl_K : xm_K := fun o _ => o = .inl (some (.int 1))
def xl_cl (sc : xm_S) (P : am_P) : Prop := ∀ pc lv st h bc bs, xm_row am_G am_ro am_ft am_df xm_G sc (am_Run 15) (xm_Run 15) [] (some .boolean) xl_K P ((xm_G 27).1.2.2.2.2.1 pc) pc lv st h bc bs → P pc lv st h bc bs
def xl_ad (t0 t1 b : Nat) : Nat → Nat := fun k => if k = 1000 then t0 else if k = 1001 then t1 else b
set_option maxRecDepth 100000 in
set_option maxHeartbeats 8000000 in
/-- the law, out of a run of the abstract machine -/
theorem xl_start {p : Program} {e : Env} {s : State} {m : MethodId} {below : List Frame} {meth : Method} {c : Code} (l : Launch) (hflags : l.flags = flags0) {b L : Nat} {xs : Nat → Int32} (C0 : lw_At p s m meth c b L xs) (hE : ∀ P : am_P, am_mono P → xl_cl (some (L, xs)) P → P 0 (am_padN 10 [some (.ref 1500)]) [] [] 3145 123673) : W p l e room_1 s m #[Value.ref b] below meth c s.heap [] 0 0 (lw_Z below #[Value.ref b] s) (entryFrame m ([Value.ref b] : List Value).toArray 10) := by
  obtain ⟨hx, hb, hr, hml, hown, hlt, hX, hbl, hlocks, hgv⟩ := id C0
  have hs := flat_of_before _ hgv
  have hts : ∀ w ∈ am_ts, w.before #[Value.ref b] s = true := fun w hw => hlt w (List.mem_filter.mp hw).1
  have hfl : l.stackTraces = false := by
    unfold Launch.stackTraces
    rw [hflags]
    decide
  obtain ⟨D, hD9⟩ := xl_known hts
  obtain ⟨cA, hcA⟩ := xl_arrs hts
  have hK : va_K D am_cl9 (am_tys cA) s := ⟨hD9, hcA⟩
  obtain ⟨A, hAd⟩ : ∃ A : Nat → Prop, A = fun q => s.heap.size ≤ q := ⟨_, rfl⟩
  have hA : ∀ q, s.heap.size ≤ q → A q := fun q hq => by rw [hAd]; exact hq
  have hnA : ∀ a : Nat, a < s.heap.size → ¬ A a := fun a ha q => by rw [hAd] at q; exact absurd ha (Nat.not_lt.mpr q)
  obtain ⟨t0, ht0, hT0⟩ := xl_roots hs hnA
  obtain ⟨t1, ht1, hT1⟩ := xl_kinds hs hnA
  have hZ0 := va_Zref (hlt _ (List.mem_append_right _ (List.mem_of_getElem? (i := 511) (by decide +kernel)))) (hlt _ (List.mem_append_right _ (List.mem_of_getElem? (i := 1) (by decide +kernel)))) ht0 hnA
  have hZ1 := va_Zref (hlt _ (List.mem_append_right _ (List.mem_of_getElem? (i := 771) (by decide +kernel)))) (hlt _ (List.mem_append_right _ (List.mem_of_getElem? (i := 1) (by decide +kernel)))) ht1 hnA
  have hcl7 : s.vm.findClass "ToolrestMill" = some (D.1 7) := (hD9 7 _ rfl).2.1
  have hZ := xl_Z (A := A) (D := D) hlt hs hnA hcl7
  have hro : ∀ ad', am_ag 0 (xl_ad t0 t1 b) ad' → ∀ k e, am_nth am_ro k = some e → am_T e (ad' (1000 + k)) A s s.heap := fun ad' hag k e he => by
    rw [hag _ (Or.inr (Nat.le_add_right _ _))]
    match k, he with
    | 0, he => cases he; exact hT0
    | 1, he => cases he; exact hT1
    | k + 2, he => simp [am_ro, am_nth] at he
  have hst : ∀ ad', am_ag 0 (xl_ad t0 t1 b) ad' → ∀ k q, am_nth am_sts k = some q → va_Z q.1 q.2.1 q.2.2 (.ref (ad' (1000 + k))) A s s.heap := fun ad' hag k q hq => by
    rw [hag _ (Or.inr (Nat.le_add_right _ _))]
    match k, hq with
    | 0, hq => cases hq; exact hZ0
    | 1, hq => cases hq; exact hZ1
    | k + 2, hq => simp [am_sts, am_nth] at hq
  have hroW : ∀ e ∈ am_ro, am_we 0 e := fun e he => by
    simp only [am_ro, List.mem_cons, List.not_mem_nil, or_false] at he
    rcases he with rfl | rfl <;> trivial
  have hE2 := hE (xm_PW p l e room_1 s m #[Value.ref b] below meth c (lw_Z below #[Value.ref b] s) 10 D am_cl9 cA A (xl_ad t0 t1 b) 0) ?_ ?_
  · have h9 := hE2 (xl_ad t0 t1 b) s.heap [] ((lg_sl ([.ref b]) ++ List.replicate (10 - (lg_sl ([.ref b])).length) Slot.unset).toArray) 0 0 ⟨am_ag_rf, Nat.le_refl _, Nat.zero_le _, (fun _ q => by cases q), (fun k q h => by simp [am_ws] at h), ⟨(fun i j p q h => by simp [am_ws] at h), (fun k q h => by simp [am_ws] at h)⟩, va_S.rf, Nat.le_refl _, Nat.le_refl _⟩ (fun i v hi => ?_) (fun _ q => by cases q) ?_
    · rw [lg_entry_eq]
      exact h9
    · have h8 := am_padN_nth _ _ _ _ hi
      match i, h8 with
      | 0, h8 => cases h8; exact Or.inr (by decide)
      | i + 1, h8 => simp [am_nth] at h8
    · have hl := lv_entry ([.ref b]) (n := 10) (Nat.le_of_ble_eq_true rfl)
      refine ⟨am_padN_len _ _, hl.1, hl.2.1, fun i v hi => ?_⟩
      have h8 := am_padN_nth _ _ _ _ hi
      match i, h8 with
      | 0, h8 => cases h8; exact hl.2.2 (0, .ref b) List.mem_cons_self
      | i + 1, h8 => simp [am_nth] at h8
  · intro pc lv lv' st h' bc' bs' hle hV ad' H locs ls cells slots g1 g5 g6 g10
    exact hV ad' H locs ls cells slots g1 (am_wl_less hle g5) g6 (am_ls_le hle g10)
  · intro pc lv st h' bc' bs' hrow
    refine xm_row_W (d := 15) (nM := am_nM) (nX := xm_nX) (hh := []) (y := ⟨RL, meth.name, ""⟩) (Ts := am_ts) (nest := am_nest) (xn := xm_xn) (xnc := xm_xnc) (strs := xm_strs) hx hb hml hown rfl hts am_ts_good am_nest_ok xm_xn_ok (xl_nest hlt) xm_okC_all hK hA hro hst hZ (fun m' as' h9 K9 ad9 sz9 z1 z2 z3 z4 z5 => am_sound am_ts_good am_nest_ok xm_okC_all hroW am_okM_all am_V9_all 15 m' as' h9 K9 ad9 sz9 z1 z2 z3 z4 z5) (fun m' as' h9 K9 ad9 sz9 z1 z2 z3 z4 z5 => xm_sound hfl am_ts_good am_nest_ok xm_xn_ok xm_okC_all hroW am_okM_all am_V9_all xm_M_all xm_V9_all 15 m' as' h9 K9 ad9 sz9 z1 z2 z3 z4 z5) (Nat.le_of_ble_eq_true rfl) (Nat.le_of_ble_eq_true rfl) (Or.inl rfl) ?_ ?_ ?_ ?_ (xl_ok (y' := ⟨RL, meth.name, ""⟩) rfl (by decide) rfl rfl (w27 pc)) hrow
    · intro L9 xs9 q
      cases q
      exact ⟨b, rfl, hX, hbl, hnA b hbl⟩
    · intro pc ins len st h' ad' H locs ls cells slots bc bs hdg hlen hW hls hwt hrt
      obtain ⟨g1, g2, g3, g4, g7, g8, g9, g11, g12⟩ := hW
      have hfor : ∀ q ∈ locs, s.heap.size ≤ q.base := fun q hq => by
        have := g9.2.2 q hq
        rw [hAd] at this
        exact this
      cases ins
      case ireturn =>
        obtain rfl : len = 1 := hlen
        obtain ⟨x9, ty, rfl, -, -, h2⟩ := hrt
        have hx9 : x9 = 1 := by
          have : (Sum.inl (some (Value.int x9)) : Option Value ⊕ Nat) = .inl (some (.int 1)) := h2
          injection this with h3
          injection h3 with h4
          injection h4
        subst hx9
        refine va_forget hfor (W.widen (k := 3145) (n := 123673) ?_ ?_ ?_)
        · exact Nat.le_trans (Nat.le_add_right _ _) g11
        · exact Nat.le_trans (Nat.le_add_right _ _) g12
        · exact W.base (lw_ret (Drawn.sameBut.refl s.drawn lw_cs) hx hb hr hlocks hdg)
      case lreturn => obtain ⟨x9, -, q, -⟩ := hrt; cases q
      case freturn => obtain ⟨x9, -, q, -⟩ := hrt; cases q
      case dreturn => obtain ⟨x9, -, q, -⟩ := hrt; cases q
      case return_ => obtain ⟨-, q, -⟩ := hrt; cases q
      all_goals exact hrt.elim
    · intro pc r1 h' ad' H locs ls cells slots bc bs _ hk
      cases hk
    · intro pc e' rest h' ad' H locs ls cells slots bc bs q ce _ hk
      cases hk
