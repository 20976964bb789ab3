/-! WHAT THE ABSTRACT MACHINE SAYS, THE JVM DOES: the world and the rows of the heap. -/
def am_e (cA : Nat → ClassId) (ad : Nat → Nat) : am_E → va_E
  | .inl (t, x) => .inl (cA t, x)
  | .inr (ci, fs) => .inr (ci, fs.map (am_v ad))
def am_ws (cA : Nat → ClassId) (ad : Nat → Nat) : Nat → am_H → va_W
  | _, [] => []
  | i, e :: h => (ad i, am_e cA ad e) :: am_ws cA ad (i + 1) h
theorem am_ws_nth {cA : Nat → ClassId} {ad : Nat → Nat} : ∀ (h : am_H) (i k : Nat), (am_ws cA ad i h)[k]? = (am_nth h k).map (fun e => (ad (i + k), am_e cA ad e))
  | [], i, k => by simp [am_ws, am_nth]
  | e :: h, i, 0 => by simp [am_ws, am_nth]
  | e :: h, i, k + 1 => by
    rw [am_ws, List.getElem?_cons_succ, am_ws_nth h (i + 1) k, am_nth, show i + 1 + k = i + (k + 1) by omega]
theorem am_ws_at {cA : Nat → ClassId} {ad : Nat → Nat} {h : am_H} {k : Nat} {e : am_E} (he : am_nth h k = some e) : (am_ws cA ad 0 h)[k]? = some (ad k, am_e cA ad e) := by
  rw [am_ws_nth, he, Nat.zero_add]; rfl
theorem am_ws_len {cA : Nat → ClassId} {ad : Nat → Nat} : ∀ (h : am_H) (i : Nat), (am_ws cA ad i h).length = h.length
  | [], i => rfl
  | e :: h, i => by rw [am_ws, List.length_cons, am_ws_len h, List.length_cons]
theorem am_ws_upd' {cA : Nat → ClassId} {ad : Nat → Nat} {e : am_E} : ∀ (h : am_H) (i k : Nat), am_ws cA ad i (am_upd h k e) = (am_ws cA ad i h).set k (ad (i + k), am_e cA ad e)
  | [], i, k => by simp [am_ws, am_upd]
  | x :: h, i, 0 => by simp [am_ws, am_upd]
  | x :: h, i, k + 1 => by
    rw [am_upd, am_ws, am_ws, List.set_cons_succ, am_ws_upd' h (i + 1) k, show i + 1 + k = i + (k + 1) by omega]
theorem am_ws_upd {cA : Nat → ClassId} {ad : Nat → Nat} {e : am_E} {h : am_H} {k : Nat} : am_ws cA ad 0 (am_upd h k e) = (am_ws cA ad 0 h).set k (ad k, am_e cA ad e) := by
  rw [am_ws_upd', Nat.zero_add]
theorem am_ws_app' {cA : Nat → ClassId} {ad : Nat → Nat} {e : am_E} : ∀ (h : am_H) (i : Nat), am_ws cA ad i (h ++ [e]) = am_ws cA ad i h ++ [(ad (i + h.length), am_e cA ad e)]
  | [], i => by simp [am_ws]
  | x :: h, i => by
    rw [List.cons_append, am_ws, am_ws_app' h (i + 1), am_ws, List.cons_append, List.length_cons, show i + 1 + h.length = i + (h.length + 1) by omega]
theorem am_ws_app {cA : Nat → ClassId} {ad : Nat → Nat} {e : am_E} {h : am_H} : am_ws cA ad 0 (h ++ [e]) = am_ws cA ad 0 h ++ [(ad h.length, am_e cA ad e)] := by
  rw [am_ws_app', Nat.zero_add]
def am_ty : List FieldType := [.int, .char, .boolean, .long, .double]
def am_tys (cA : Nat → ClassId) : List (ClassId × FieldType) := [(cA 0, .int), (cA 1, .char), (cA 2, .boolean), (cA 3, .long), (cA 4, .double)]
theorem am_nar {ty : FieldType} {v : Value} {ad : Nat → Nat} (h : narrow ty v = v) : narrow ty (am_v ad v) = am_v ad v := by
  cases v <;> first | exact h | (cases ty <;> rfl)
theorem am_fit {ty : FieldType} {v : Value} {ad : Nat → Nat} (h : fits ty v = true) : fits ty (am_v ad v) = true := by
  cases v <;> first | exact h | (cases ty <;> first | rfl | exact h | (simp [fits] at h ⊢))
/-- what the tables say of the classes -/
def am_okC (cl : List vw_C) (Ts : List Jvm.Cond) (ft : Nat → Nat → FieldType) (df : Nat → List Value) : Prop := ∀ ci C T N, cl[ci]? = some (C, T, N) → (∀ w ∈ u_ws C T N, w ∈ Ts) ∧ (∀ k, k < N → parseFieldDescriptor (T k).2.2.1 = some (ft ci k)) ∧ (∀ a, a < N → ∀ b, b < N → a ≠ b → (T a).2.1 ≠ (T b).2.1) ∧ (∀ j, j < N → defaultValue (ft ci j) = vp_V (df ci) j) ∧ (∀ v ∈ df ci, v.isRef = true → v = .null)
def am_okF (cl : List vw_C) (own : String) (Ts nest : List Jvm.Cond) (i r1 r2 : Nat) : Prop := ∃ C T N, cl[r1]? = some (C, T, N) ∧ r2 < N ∧ (Jvm.Cond.fieldLink own i (T r2).1 (T r2).2.1 (T r2).2.2.1 ∈ Ts ∨ ∃ host, Jvm.Cond.fieldLinkNest own i (T r2).1 (T r2).2.1 (T r2).2.2.1 host ∈ nest)
def am_okW (cl : List vw_C) (y : MethodName) (Ts : List Jvm.Cond) (i r1 r2 : Nat) : Prop := ∃ C T N, cl[r1]? = some (C, T, N) ∧ r2 < N ∧ Jvm.Cond.fieldLink y.cls i (T r2).1 (T r2).2.1 (T r2).2.2.1 ∈ Ts ∧ ((T r2).2.2.2 = false ∨ ((T r2).2.2.2 = true ∧ (T r2).1 = y.cls ∧ y.name = "<init>"))
/-- what the table's numbers are, against the instruction: the heap -/
def am_okH (cl : List vw_C) (sts : List (String × String × String)) (y : MethodName) (Ts nest : List Jvm.Cond) (ins : Instr) (r1 r2 : Nat) : Prop := match ins with
  | .getfield i => am_okF cl y.cls Ts nest i r1 r2
  | .putfield i => am_okW cl y Ts i r1 r2
  | .getstatic i => ∃ C n d, am_nth sts r1 = some (C, n, d) ∧ (Jvm.Cond.fieldLink y.cls i C n d ∈ Ts ∨ ∃ host, Jvm.Cond.fieldLinkNest y.cls i C n d host ∈ nest)
  | .new i => ∃ C T N, cl[r1]? = some (C, T, N) ∧ r2 = N ∧ Jvm.Cond.classLink y.cls i C ∈ Ts ∧ Jvm.Cond.instantiable C N ∈ Ts ∧ Jvm.Cond.initialized C ∈ Ts
  | .newarray a => am_nth am_ty r1 = some (newarray.typeOf a) ∧ Jvm.Cond.arrayClass (newarray.typeOf a) ∈ Ts
  | _ => True
/-- what is given for good: a row of ints or chars that was there before, its values alone -/
def am_T (e : am_E) (t : Nat) (A : Nat → Prop) (U : State) (H : Heap) : Prop := match e with
  | .inl (0, n, .inl f) => va_T .int t n (fun j => .int (f j)) A U H
  | .inl (1, n, .inl f) => va_T .char t n (fun j => .int (f j)) A U H
  | _ => False
theorem am_T_c {e : am_E} {t : Nat} {A : Nat → Prop} {U : State} {H : Heap} (h : am_T e t A U H) : (∃ n f, e = .inl (0, n, .inl f) ∧ va_T .int t n (fun j => .int (f j)) A U H) ∨ ∃ n f, e = .inl (1, n, .inl f) ∧ va_T .char t n (fun j => .int (f j)) A U H := by
  rcases e with ⟨k, n, f⟩ | o
  · rcases f with f | f
    · rcases k with _ | _ | k
      · exact Or.inl ⟨n, f, rfl, h⟩
      · exact Or.inr ⟨n, f, rfl, h⟩
      · exact h.elim
    · rcases k with _ | _ | k <;> exact h.elim
  · exact h.elim
theorem am_T_move {e : am_E} {t : Nat} {A B : Nat → Prop} {s U : State} {H H1 : Heap} (hal : s.vm.Alike U.vm) (hq : ∀ a : Nat, a < H.size → ¬ A a → H1[a]? = H[a]?) (hAB : ∀ q, B q → A q) (h : am_T e t A s H) : am_T e t B U H1 := by
  rcases am_T_c h with ⟨n, f, rfl, g⟩ | ⟨n, f, rfl, g⟩
  · exact va_T.moved hal (va_T.narrow (va_T.kept g hq) hAB)
  · exact va_T.moved hal (va_T.narrow (va_T.kept g hq) hAB)
section AMH
variable {p : Program} {l : Launch} {e : Env} {R : Room} {s : State} {m : MethodId} {args : Array Value} {below : List Frame} {meth : Method} {c : Code} {H : Heap} {locs : List Loc} {cells slots : Nat} {Q : State → Prop}
variable {cc : ByteArray} {pc len r1 r2 nL : Nat} {ls : Array Slot} {y : MethodName} {Ts nest : List Jvm.Cond} {ins : Instr} {st st' : List Value} {lv lv' : am_L} {ad : Nat → Nat} {h h' : am_H} {D : va_G} {cl : List vw_C} {cA : Nat → ClassId} {A : Nat → Prop} {ro : am_H} {sts : List (String × String × String)} {ft : Nat → Nat → FieldType} {df : Nat → List Value}
theorem am_one {q : Nat × va_E} (hq : va_at D cl q H) : va_P D cl [q] H := by
  intro k x hk
  cases k with
  | zero => cases hk; exact hq
  | succ k => simp at hk
theorem am_get_or {a : Nat} {e : am_E} (he : am_get ro h a = some e) : am_nth h a = some e ∨ ∃ k, a = 1000 + k ∧ am_nth ro k = some e := by
  unfold am_get at he
  cases hb : Nat.blt a 1000 with
  | true =>
    rw [hb] at he
    exact Or.inl he
  | false =>
    rw [hb] at he
    have : ¬ a < 1000 := fun q => by rw [show Nat.blt a 1000 = true from Nat.ble_eq_true_of_le q] at hb; cases hb
    exact Or.inr ⟨a - 1000, by omega, he⟩
set_option maxHeartbeats 4000000 in
theorem am_W_hp (hx : p.tables.exec = Jvm.exec) (hb : c.code = cc) (hown : s.vm.findClass y.cls = some m.cls) (hnm : meth.name = y.name) (hts : ∀ w ∈ Ts, w.before args s = true) (hne : ∀ w ∈ nest, va_Nw w s) (hcl : am_okC cl Ts ft df) (hK : va_K D cl (am_tys cA) s)
    (hro : ∀ k e, am_nth ro k = some e → am_T e (ad (1000 + k)) A s s.heap) (hst : ∀ k q, am_nth sts k = some q → va_Z q.1 q.2.1 q.2.2 (.ref (ad (1000 + k))) A s s.heap)
    (hdg : decode cc pc = .ok (ins, len)) (hlen : am_len ins len) (hok : am_okH cl sts y Ts nest ins r1 r2) (hP : va_P D cl (am_ws cA ad 0 h) H) (hD : va_D A (am_ws cA ad 0 h)) (hS : va_S A s.heap H locs) (hs : am_hp ro ft ins r1 r2 st st' h h')
    (k : ∀ (H1 : Heap) (locs1 : List Loc), va_P D cl (am_ws cA ad 0 h') H1 → va_D A (am_ws cA ad 0 h') → va_S A s.heap H1 locs1 → W p l e R s m args below meth c H1 locs1 cells slots Q (F0 m (pc + len) ls (st'.map (am_v ad)))) : W p l e R s m args below meth c H locs cells slots Q (F0 m pc ls (st.map (am_v ad))) := by
  cases ins
  case getfield i =>
    obtain rfl : len = 3 := hlen
    obtain ⟨a, fs, v, r, rfl, h1, h2, rfl, rfl⟩ := hs
    obtain ⟨C, T, N, g1, g2, g3⟩ := hok
    obtain ⟨k1, k2, k3, k4, k5⟩ := hcl _ _ _ _ g1
    have hv : (fs.map (am_v ad))[r2]? = some (am_v ad v) := by rw [List.getElem?_map, ← am_nth_eq, h2]; rfl
    rcases g3 with g3 | ⟨host, g3⟩
    · exact va_get (D := D) hx hb hts k1 hown hK hP a (am_ws_at h1) g1 r2 g2 (hts _ g3) (fun _ q => q) hv hdg (k _ _ hP hD hS)
    · exact va_getN (D := D) hx hb hts k1 hown hK hP a (am_ws_at h1) g1 r2 g2 (va_Nw.use rfl (hne _ g3)) (fun _ q => q) hv hdg (k _ _ hP hD hS)
  case putfield i =>
    obtain rfl : len = 3 := hlen
    obtain ⟨a, fs, v, r, rfl, h1, h2, h3, h4, rfl, rfl⟩ := hs
    obtain ⟨C, T, N, g1, g2, g3, g4⟩ := hok
    obtain ⟨k1, k2, k3, k4, k5⟩ := hcl _ _ _ _ g1
    have hl : r2 < (fs.map (am_v ad)).length := by rw [List.length_map]; exact Nat.le_of_ble_eq_true h2
    have he : am_ws cA ad 0 (am_upd h a (.inr (r1, am_upd fs r2 v))) = (am_ws cA ad 0 h).set a (ad a, .inr (r1, (fs.map (am_v ad)).set r2 (am_v ad v))) := by
      rw [am_ws_upd, am_upd_eq]
      show _ = (am_ws cA ad 0 h).set a (ad a, .inr (r1, (fs.map (am_v ad)).set r2 (am_v ad v)))
      rw [← List.map_set]
      rfl
    rw [he] at k
    rcases g4 with g4 | ⟨g4, g5, g6⟩
    · exact va_put (D := D) hx hb hts k1 (ft r1) k2 k3 hown hK hP hD hS a (am_ws_at h1) g1 r2 g2 (hts _ g3) (fun _ q => q) g4 (k2 r2 g2) (am_nar h3) (am_fit h4) hl hdg k
    · exact va_putF (D := D) hx hb hts k1 (ft r1) k2 k3 hown hK hP hD hS a (am_ws_at h1) g1 r2 g2 (hts _ g3) (fun _ q => q) g4 (hnm.trans g6) g5 (k2 r2 g2) (am_nar h3) (am_fit h4) hl hdg k
  case getstatic i =>
    obtain rfl : len = 3 := hlen
    obtain ⟨rfl, rfl⟩ := hs
    obtain ⟨C, n, d, g1, g2⟩ := hok
    rcases g2 with g2 | ⟨host, g2⟩
    · exact va_gets hx hb (hst _ _ g1) hS hown (hts _ g2) (fun _ q => q) hdg (k _ _ hP hD hS)
    · exact va_getsN hx hb (hst _ _ g1) hS hown (va_Nw.use rfl (hne _ g2)) (fun _ q => q) hdg (k _ _ hP hD hS)
  case arraylength =>
    obtain rfl : len = 1 := hlen
    obtain ⟨a, t, x, r, rfl, h1, h2, rfl, rfl⟩ := hs
    rcases am_get_or h1 with g | ⟨k9, rfl, g⟩
    · have ha : va_at D cl (ad a, am_e cA ad (.inl (t, x))) H := hP a _ (am_ws_at g)
      rcases t with _ | _ | _ | _ | _ | t
      · exact va_alen (D := D) hx hb hK (am_one ha) 0 0 rfl rfl rfl hdg (k _ _ hP hD hS)
      · exact va_alen (D := D) hx hb hK (am_one ha) 0 1 rfl rfl rfl hdg (k _ _ hP hD hS)
      · exact va_alen (D := D) hx hb hK (am_one ha) 0 2 rfl rfl rfl hdg (k _ _ hP hD hS)
      · exact va_alen (D := D) hx hb hK (am_one ha) 0 3 rfl rfl rfl hdg (k _ _ hP hD hS)
      · exact va_alen (D := D) hx hb hK (am_one ha) 0 4 rfl rfl rfl hdg (k _ _ hP hD hS)
      · exact absurd (Nat.le_of_ble_eq_true h2) (by omega)
    · rcases am_T_c (hro _ _ g) with ⟨n, f, h9, g9⟩ | ⟨n, f, h9, g9⟩
      · cases h9
        exact va_tlen hx hb g9 hS rfl hdg (k _ _ hP hD hS)
      · cases h9
        exact va_tlen hx hb g9 hS rfl hdg (k _ _ hP hD hS)
  case iaload =>
    obtain rfl : len = 1 := hlen
    obtain ⟨a, i, n, f, r, rfl, h1, h2, rfl, rfl⟩ := hs
    rcases am_get_or h1 with g | ⟨k9, rfl, g⟩
    · exact va_iald (D := D) hx hb hK (am_one (hP a _ (am_ws_at g))) 0 0 rfl rfl h2 hdg (k _ _ hP hD hS)
    · exact va_ti hx hb (hro _ _ g) hS h2 rfl hdg (k _ _ hP hD hS)
  case caload =>
    obtain rfl : len = 1 := hlen
    obtain ⟨a, i, n, f, r, rfl, h1, h2, rfl, rfl⟩ := hs
    rcases am_get_or h1 with g | ⟨k9, rfl, g⟩
    · exact va_cald (D := D) hx hb hK (am_one (hP a _ (am_ws_at g))) 0 1 rfl rfl h2 hdg (k _ _ hP hD hS)
    · exact va_tc hx hb (hro _ _ g) hS h2 rfl hdg (k _ _ hP hD hS)
  case baload =>
    obtain rfl : len = 1 := hlen
    obtain ⟨a, i, n, f, r, rfl, h1, h2, rfl, rfl⟩ := hs
    rcases am_get_or h1 with g | ⟨k9, rfl, g⟩
    · exact va_zald (D := D) hx hb hK (am_one (hP a _ (am_ws_at g))) 0 2 rfl rfl h2 hdg (k _ _ hP hD hS)
    · exact (hro _ _ g).elim
  case laload =>
    obtain rfl : len = 1 := hlen
    obtain ⟨a, i, n, f, r, rfl, h1, h2, rfl, rfl⟩ := hs
    rcases am_get_or h1 with g | ⟨k9, rfl, g⟩
    · exact va_lald (D := D) hx hb hK (am_one (hP a _ (am_ws_at g))) 0 3 rfl rfl h2 hdg (k _ _ hP hD hS)
    · exact (hro _ _ g).elim
  case daload =>
    obtain rfl : len = 1 := hlen
    obtain ⟨a, i, n, f, r, rfl, h1, h2, rfl, rfl⟩ := hs
    rcases am_get_or h1 with g | ⟨k9, rfl, g⟩
    · exact va_dald (D := D) hx hb hK (am_one (hP a _ (am_ws_at g))) 0 4 rfl rfl h2 hdg (k _ _ hP hD hS)
    · exact (hro _ _ g).elim
  case iastore =>
    obtain rfl : len = 1 := hlen
    obtain ⟨a, i, n, f, x, r, rfl, h1, h2, rfl, rfl⟩ := hs
    rw [am_ws_upd] at k
    exact va_iast (D := D) hx hb hK hP hD hS a 0 (am_ws_at h1) rfl h2 hdg k
  case castore =>
    obtain rfl : len = 1 := hlen
    obtain ⟨a, i, n, f, x, r, rfl, h1, h2, rfl, rfl⟩ := hs
    rw [am_ws_upd] at k
    exact va_cast (D := D) hx hb hK hP hD hS a 1 (am_ws_at h1) rfl h2 hdg k
  case bastore =>
    obtain rfl : len = 1 := hlen
    obtain ⟨a, i, n, f, x, r, rfl, h1, h2, rfl, rfl⟩ := hs
    rw [am_ws_upd] at k
    exact va_zast (D := D) hx hb hK hP hD hS a 2 (am_ws_at h1) rfl h2 hdg k
  case lastore =>
    obtain rfl : len = 1 := hlen
    obtain ⟨a, i, n, f, x, r, rfl, h1, h2, rfl, rfl⟩ := hs
    rw [am_ws_upd] at k
    exact va_last (D := D) hx hb hK hP hD hS a 3 (am_ws_at h1) rfl h2 hdg k
  case dastore =>
    obtain rfl : len = 1 := hlen
    obtain ⟨a, i, n, f, x, r, rfl, h1, h2, rfl, rfl⟩ := hs
    rw [am_ws_upd] at k
    exact va_dast (D := D) hx hb hK hP hD hS a 4 (am_ws_at h1) rfl h2 hdg k
  all_goals exact hs.elim
end AMH
