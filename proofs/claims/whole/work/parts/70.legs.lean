/-! THE LEGS OF A BLOCK: few steps each, one behind the other, and where they end. -/
theorem ig_iw {x lo hi : Int32} (h : mi_iw x lo hi = true) : lo.toInt ≤ x.toInt ∧ x.toInt ≤ hi.toInt := by
  rw [mi_iw, Bool.and_eq_true, decide_eq_true_eq, decide_eq_true_eq] at h
  exact ⟨Int32.le_iff_toInt_le.mp h.1, Int32.le_iff_toInt_le.mp h.2⟩
theorem ig_add {x y : Int32} (h1 : -2000 ≤ x.toInt) (h2 : x.toInt ≤ 2000) (h3 : -2000 ≤ y.toInt) (h4 : y.toInt ≤ 2000) : (x + y).toInt = x.toInt + y.toInt := by
  rw [Int32.toInt_add]
  exact Int.bmod_eq_of_le (by omega) (by omega)
theorem ig_sub {x y : Int32} (h1 : -2000 ≤ x.toInt) (h2 : x.toInt ≤ 2000) (h3 : -2000 ≤ y.toInt) (h4 : y.toInt ≤ 2000) : (x - y).toInt = x.toInt - y.toInt := by
  rw [Int32.toInt_sub]
  exact Int.bmod_eq_of_le (by omega) (by omega)
theorem ig_leg {x u a : Int32} {X : Nat} (hX : X < 16) (hx : x = nI X) (h1 : -15 ≤ u.toInt) (h2 : u.toInt ≤ 15) (h3 : -50 ≤ a.toInt) (h4 : a.toInt ≤ 50) : ∃ n, ig_bd n (u + a - x) := by
  have e1 := ig_add (x := u) (y := a) (by omega) (by omega) (by omega) (by omega)
  have e0 : x.toInt = X := by rw [hx]; exact nI_toInt (by omega)
  have e2 := ig_sub (x := u + a) (y := x) (by omega) (by omega) (by omega) (by omega)
  exact ⟨_, ig_of (by omega) (by omega)⟩
theorem ig_bd0 (x : Int32) : ig_bd 0 (x - x) := ⟨by decide, Or.inl (Int32.sub_self x)⟩
theorem ml_deps_le {A B : Nat} : ∀ n i, ∀ D ∈ ml_deps A B n i, D ≤ A
  | 0, i, D, h => by
    rw [ml_deps, List.mem_singleton] at h
    omega
  | n + 1, i, D, h => by
    rw [ml_deps] at h
    split at h
    · rcases List.mem_cons.mp h with rfl | h
      · omega
      · exact ml_deps_le n (i + 1) D h
    · rw [List.mem_singleton] at h
      omega
theorem ig_down_few {x y z : Int32} {D : Nat} (hD : D ≤ 50) : ig_few (ml_down x y z D) := by
  refine ⟨0, 0, D, ig_bd0 x, ig_bd0 y, by omega, Or.inr ?_⟩
  show z - nI D - z = -nI D
  grind
theorem ig_mk_to {x y z u v w : Int32} : ig_to (mk_one x y z u v w) = (u, v, w) := by
  show (x + (u - x), y + (v - y), z + (w - z)) = (u, v, w)
  rw [show x + (u - x) = u by grind, show y + (v - y) = v by grind, show z + (w - z) = w by grind]
theorem ig_px {x : Int32} {A i : Nat} (hA : A ≤ 50) : ig_bd A (ml_px x (x + nI A) (i + 1) - ml_px x (x + nI A) i) := by
  rw [mg_px_d]
  split
  · exact ⟨by omega, Or.inr rfl⟩
  · exact ⟨by omega, Or.inl rfl⟩
theorem ig_pk {x y z : Int32} {A : Nat} (hA : A ≤ 50) : ∀ n, (∀ e ∈ ml_pk x (x + nI A) y z n, ig_few e) ∧ ig_lnk (x + nI A, y, z) (ml_pk x (x + nI A) y z n) ∧ ig_fin (x + nI A, y, z) (ml_pk x (x + nI A) y z n) = (ml_px x (x + nI A) n, y + nI n, z)
  | 0 => by
    refine ⟨fun e he => absurd he List.not_mem_nil, trivial, ?_⟩
    show (x + nI A, y, z) = (ml_px x (x + nI A) 0, y + 0, z)
    rw [ml_px, if_pos rfl, Int32.add_zero]
  | n + 1 => by
    obtain ⟨h1, h2, h3⟩ := ig_pk (x := x) (y := y) (z := z) hA n
    rw [ml_pk]
    refine ⟨fun e he => ?_, ?_, ?_⟩
    · rcases List.mem_append.mp he with he | he
      · exact h1 e he
      · rcases List.mem_cons.mp he with rfl | he
        · refine ⟨0, 1, 0, ig_bd0 _, ⟨by decide, Or.inl ?_⟩, ig_bd0 _⟩
          show y + nI n + 1 - (y + nI n) = 1
          grind
        · rw [List.mem_singleton] at he
          subst he
          exact ⟨A, 0, 0, ig_px hA, ig_bd0 _, ig_bd0 _⟩
    · rw [ig_lnk_app, h3]
      exact ⟨h2, rfl, ig_mk_to.symm, trivial⟩
    · rw [ig_fin_app, h3]
      show ig_to (mk_one _ _ _ _ _ _) = _
      rw [ig_mk_to, Int32.add_assoc, nI_1]
/-- all that the walk asks of the legs -/
theorem ig_legs {k a b c x y z u v w : Int32} (hk : mx_mv k) (hp : ig_in x y z) (hu : -15 ≤ u.toInt ∧ u.toInt ≤ 15) (hv : -15 ≤ v.toInt ∧ v.toInt ≤ 15) (hw : -15 ≤ w.toInt ∧ w.toInt ≤ 15) (ha : -50 ≤ a.toInt ∧ a.toInt ≤ 50) (hb : -50 ≤ b.toInt ∧ b.toInt ≤ 50) (hc : -50 ≤ c.toInt ∧ c.toInt ≤ 50) (h100 : k = 100 → ∃ A B, a = nI A ∧ b = nI B ∧ A ≤ 50 ∧ 1 ≤ B ∧ B ≤ 50) (h112 : k = 112 → ∃ A B C, a = nI A ∧ b = nI B ∧ c = nI C ∧ A ≤ 50 ∧ B ≤ 50 ∧ C ≤ 50) :
    (∀ e ∈ ml_legs k a b c x y z u v w, ig_few e) ∧ ((∀ e ∈ ml_legs k a b c x y z u v w, ml_ins e = true) → ∀ e ∈ ml_legs k a b c x y z u v w, ml_inn e ∧ ml_N e ≤ 15) ∧ ((∀ e ∈ ml_legs k a b c x y z u v w, ∀ i, 1 ≤ i → i ≤ ml_N e → mg_at e i = true) → ∀ e ∈ ml_legs k a b c x y z u v w, ml_ins e = true) ∧ ((∀ e ∈ ml_legs k a b c x y z u v w, ml_ins e = true) → ig_in (ml_ex k a b x u) (ml_ey k b y v) (ml_ez k c z w)) := by
  obtain ⟨X, Y, Z, hX, hY, hZ, ex, ey, ez⟩ := id hp
  have fin : (∀ e ∈ ml_legs k a b c x y z u v w, ml_ins e = true) → ig_in (ml_ex k a b x u) (ml_ey k b y v) (ml_ez k c z w) := by
    intro h
    obtain ⟨e, hl, g1, g2, g3⟩ := ml_last (a := a) (b := b) (c := c) (x := x) (y := y) (z := z) (u := u) (v := v) (w := w) hk (fun q => by
      obtain ⟨A, B, C, -, h1, -, -, h2, -⟩ := h112 q
      exact ⟨B, h1, by omega⟩)
    obtain ⟨U, V, W, hU, hV, hW, f1, f2, f3⟩ := ig_ins_iff.mp (h e (List.mem_of_getLast? hl))
    rw [← g1, ← g2, ← g3]
    split
    · exact ⟨U, V, Z, hU, hV, hZ, f1, f2, ez⟩
    · exact ⟨U, V, W, hU, hV, hW, f1, f2, f3⟩
  by_cases h1 : k = 103 ∨ k = 108
  · have e : ml_legs k a b c x y z u v w = [mk_one x y z (u + a) (v + b) (w + c)] := by rw [ml_legs, if_pos h1]
    have hl : ig_lnk (x, y, z) (ml_legs k a b c x y z u v w) := by rw [e]; exact ⟨rfl, trivial⟩
    have hf : ∀ e ∈ ml_legs k a b c x y z u v w, ig_few e := by
      rw [e]
      intro e he
      rw [List.mem_singleton] at he
      subst he
      obtain ⟨p, hp⟩ := ig_leg (u := u) (a := a) hX ex hu.1 hu.2 ha.1 ha.2
      obtain ⟨q, hq⟩ := ig_leg (u := v) (a := b) (show Y < 16 by omega) ey hv.1 hv.2 hb.1 hb.2
      obtain ⟨r, hr⟩ := ig_leg (u := w) (a := c) (show Z < 16 by omega) ez hw.1 hw.2 hc.1 hc.2
      exact ⟨p, q, r, hp, hq, hr⟩
    exact ⟨hf, ig_lnk_in _ (x, y, z) hp hl, ig_lnk_out _ (x, y, z) hp hl hf, fin⟩
  · by_cases h2 : k = 100
    · obtain ⟨A, B, rfl, rfl, hA, hB1, hB⟩ := h100 h2
      have e : ml_legs k (nI A) (nI B) c x y z u v w = (ml_deps A B A 1).map (ml_down x y z) := by rw [ml_legs, if_neg h1, if_pos h2, nI_clamp (by omega), nI_clamp (by omega)]
      rw [e] at fin ⊢
      have hf : ∀ e ∈ (ml_deps A B A 1).map (ml_down x y z), ig_few e := by
        intro e he
        obtain ⟨D, hD, rfl⟩ := List.mem_map.mp he
        exact ig_down_few (Nat.le_trans (ml_deps_le _ _ D hD) hA)
      refine ⟨hf, fun h e he => ?_, fun h e he => ?_, fin⟩
      · have hi := h e he
        obtain ⟨D, hD, rfl⟩ := List.mem_map.mp he
        exact ig_inn hp (ig_ins_iff.mp hi)
      · have hi := h e he
        have hg := hf e he
        obtain ⟨D, hD, rfl⟩ := List.mem_map.mp he
        exact ig_one_out hp hg hi
    · have h3 : k = 112 := by
        rcases hk with h | h | h | h
        · exact absurd (Or.inl h) h1
        · exact absurd (Or.inr h) h1
        · exact absurd h h2
        · exact h
      obtain ⟨A, B, C, rfl, rfl, rfl, hA, hB, hC⟩ := h112 h3
      have e : ml_legs k (nI A) (nI B) (nI C) x y z u v w = [ml_down x y z C, mk_one x y (z - nI C) (x + nI A) y (z - nI C)] ++ ml_pk x (x + nI A) y (z - nI C) B := by rw [ml_legs, if_neg h1, if_neg h2, if_pos h3, nI_clamp (by omega), nI_clamp (by omega)]
      rw [e] at fin ⊢
      obtain ⟨g1, g2, g3⟩ := ig_pk (x := x) (y := y) (z := z - nI C) hA B
      have hf : ∀ e ∈ [ml_down x y z C, mk_one x y (z - nI C) (x + nI A) y (z - nI C)] ++ ml_pk x (x + nI A) y (z - nI C) B, ig_few e := by
        intro e he
        rcases List.mem_append.mp he with he | he
        · rcases List.mem_cons.mp he with rfl | he
          · exact ig_down_few hC
          · rw [List.mem_singleton] at he
            subst he
            refine ⟨A, 0, 0, ⟨by omega, Or.inl ?_⟩, ig_bd0 _, ig_bd0 _⟩
            show x + nI A - x = nI A
            grind
        · exact g1 e he
      have hl : ig_lnk (x, y, z) ([ml_down x y z C, mk_one x y (z - nI C) (x + nI A) y (z - nI C)] ++ ml_pk x (x + nI A) y (z - nI C) B) := by
        rw [ig_lnk_app]
        refine ⟨⟨rfl, ?_, trivial⟩, ?_⟩
        · exact ig_mk_to.symm
        · show ig_lnk (ig_to (mk_one x y (z - nI C) (x + nI A) y (z - nI C))) _
          rw [ig_mk_to]
          exact g2
      exact ⟨hf, ig_lnk_in _ (x, y, z) hp hl, ig_lnk_out _ (x, y, z) hp hl hf, fin⟩
