/-! Labels that lie in the heap; what is made; other addresses. -/
def am_wv (n : Nat) : Value → Prop
  | .ref a => a < n ∨ 1000 ≤ a
  | _ => True
def am_we (n : Nat) : am_E → Prop
  | .inl _ => True
  | .inr (_, fs) => ∀ v ∈ fs, am_wv n v
def am_wt (n : Nat) (st : List Value) : Prop := ∀ v ∈ st, am_wv n v
def am_wl (n : Nat) (lv : am_L) : Prop := ∀ (i : Nat) (v : Value), am_nth lv i = some (some v) → am_wv n v
def am_wh (h : am_H) : Prop := ∀ e ∈ h, am_we h.length e
def am_ag (n : Nat) (ad ad' : Nat → Nat) : Prop := ∀ k, k < n ∨ 1000 ≤ k → ad' k = ad k
theorem am_ag_rf {n : Nat} {ad : Nat → Nat} : am_ag n ad ad := fun _ _ => rfl
theorem am_ag_tr {n n' : Nat} {ad ad' ad'' : Nat → Nat} (h : am_ag n ad ad') (hn : n ≤ n') (h' : am_ag n' ad' ad'') : am_ag n ad ad'' := fun k hk => (h' k (by omega)).trans (h k hk)
theorem am_wv_le {n n' : Nat} {v : Value} (h : am_wv n v) (hn : n ≤ n') : am_wv n' v := by
  cases v <;> first | trivial | (exact Or.imp (fun q => Nat.lt_of_lt_of_le q hn) id h)
theorem am_we_le {n n' : Nat} {e : am_E} (h : am_we n e) (hn : n ≤ n') : am_we n' e := by
  cases e with
  | inl x => trivial
  | inr o => exact fun v hv => am_wv_le (h v hv) hn
theorem am_v_ag {n : Nat} {ad ad' : Nat → Nat} {v : Value} (h : am_wv n v) (ha : am_ag n ad ad') : am_v ad' v = am_v ad v := by
  cases v <;> first | rfl | exact congrArg Value.ref (ha _ h)
theorem am_t_ag {n : Nat} {ad ad' : Nat → Nat} {st : List Value} (h : am_wt n st) (ha : am_ag n ad ad') : st.map (am_v ad') = st.map (am_v ad) := List.map_congr_left (fun v hv => am_v_ag (h v hv) ha)
theorem am_e_ag {n : Nat} {ad ad' : Nat → Nat} {cA : Nat → ClassId} {e : am_E} (h : am_we n e) (ha : am_ag n ad ad') : am_e cA ad' e = am_e cA ad e := by
  cases e with
  | inl x => rfl
  | inr o =>
    obtain ⟨ci, fs⟩ := o
    show Sum.inr (ci, fs.map (am_v ad')) = Sum.inr (ci, fs.map (am_v ad))
    rw [am_t_ag h ha]
theorem am_ws_ag {n : Nat} {ad ad' : Nat → Nat} {cA : Nat → ClassId} (ha : am_ag n ad ad') : ∀ (h : am_H) (i : Nat), i + h.length ≤ n → (∀ e ∈ h, am_we n e) → am_ws cA ad' i h = am_ws cA ad i h
  | [], i, _, _ => rfl
  | e :: h, i, hi, hw => by
    rw [List.length_cons] at hi
    rw [am_ws, am_ws, am_ws_ag ha h (i + 1) (by omega) (fun x hx => hw x (List.mem_cons_of_mem _ hx)), am_e_ag (hw e List.mem_cons_self) ha, ha i (Or.inl (by omega))]
theorem am_ls_ag {n nL : Nat} {ad ad' : Nat → Nat} {ls : Array Slot} {lv : am_L} (h : am_ls nL ad ls lv) (hw : am_wl n lv) (ha : am_ag n ad ad') : am_ls nL ad' ls lv :=
  ⟨h.1, h.2.1, h.2.2.1, fun i v hi => by rw [am_v_ag (hw i v hi) ha]; exact h.2.2.2 i v hi⟩
theorem am_wt_c {n : Nat} {v : Value} {st : List Value} (h : am_wt n (v :: st)) : am_wt n st := fun x hx => h x (List.mem_cons_of_mem _ hx)
theorem am_wt_1 {n : Nat} {v : Value} {st : List Value} (h : am_wt n (v :: st)) : am_wv n v := h v List.mem_cons_self
theorem am_wt_k {n : Nat} {v : Value} {st : List Value} (hv : am_wv n v) (h : am_wt n st) : am_wt n (v :: st) := fun x hx => (List.mem_cons.mp hx).elim (fun q => q ▸ hv) (h x)
section AMK
variable {ins : Instr} {r1 r2 n pc nx bc bs bc' bs' : Nat} {st st' : List Value} {lv lv' : am_L} {h h' : am_H} {ro : am_H} {ft : Nat → Nat → FieldType} {df : Nat → List Value}
theorem am_k_stk (hw : am_wt n st) (hs : am_stk ins r1 r2 st st') : am_wt n st' := by
  cases ins
  case ldc i => rcases hs with ⟨-, rfl⟩ | ⟨-, rfl⟩ <;> exact am_wt_k trivial hw
  case fconst f => rcases hs with ⟨-, rfl⟩ | ⟨-, rfl⟩ | ⟨-, rfl⟩ <;> exact am_wt_k trivial hw
  case dconst f => obtain ⟨-, rfl⟩ := hs; exact am_wt_k trivial hw
  case iconst i => cases hs; exact am_wt_k trivial hw
  case bipush i => cases hs; exact am_wt_k trivial hw
  case sipush i => cases hs; exact am_wt_k trivial hw
  case ldc_w i => cases hs; exact am_wt_k trivial hw
  case lconst i => cases hs; exact am_wt_k trivial hw
  case dup => obtain ⟨v, r, rfl, -, rfl⟩ := hs; exact am_wt_k (am_wt_1 hw) hw
  case dup2 => obtain ⟨v, w, r, rfl, -, -, rfl⟩ := hs; exact am_wt_k (am_wt_1 hw) (am_wt_k (am_wt_1 (am_wt_c hw)) hw)
  case pop => obtain ⟨v, r, rfl, -, rfl⟩ := hs; exact am_wt_c hw
  all_goals first
    | exact hs.elim
    | (obtain ⟨x, y, r, rfl, rfl⟩ := hs; exact am_wt_k trivial (am_wt_c (am_wt_c hw)))
    | (obtain ⟨x, y, r, rfl, -, rfl⟩ := hs; exact am_wt_k trivial (am_wt_c (am_wt_c hw)))
    | (obtain ⟨x, r, rfl, rfl⟩ := hs; exact am_wt_k trivial (am_wt_c hw))
    | (obtain ⟨x, r, rfl, -, rfl⟩ := hs; exact am_wt_k trivial (am_wt_c hw))
theorem am_k_ld (hw : am_wt n st) (hl : am_wl n lv) (hs : am_ld ins r1 lv st st') : am_wt n st' := by
  cases ins
  all_goals first
    | exact hs.elim
    | (obtain ⟨x, h0, rfl⟩ := hs; exact am_wt_k (hl _ _ h0) hw)
theorem am_wl_upd {i : Nat} {x : Option Value} (hl : am_wl n lv) (hx : ∀ v, x = some v → am_wv n v) : am_wl n (am_upd lv i x) := by
  intro k v hk
  by_cases hki : i = k
  · subst hki
    rw [am_nth_eq, am_upd_eq] at hk
    by_cases hi : i < lv.length
    · rw [List.getElem?_set_self hi] at hk
      exact hx v (Option.some.inj hk)
    · rw [List.getElem?_eq_none (by rw [List.length_set]; omega)] at hk
      cases hk
  · rw [am_nth_ne hki] at hk
    exact hl k v hk
theorem am_k_s1 {i : Nat} {v : Value} (hl : am_wl n lv) (hv : am_wv n v) (hs : am_s1 lv i v lv') : am_wl n lv' := by
  obtain ⟨-, -, rfl⟩ := hs
  exact am_wl_upd hl (fun w e => by cases e; exact hv)
theorem am_k_s2 {i : Nat} {v : Value} (hl : am_wl n lv) (hv : am_wv n v) (hs : am_s2 lv i v lv') : am_wl n lv' := by
  obtain ⟨-, -, rfl⟩ := hs
  exact am_wl_upd (am_wl_upd hl (fun w e => by cases e; exact hv)) (fun w e => by cases e)
theorem am_k_sto (hw : am_wt n st) (hl : am_wl n lv) (hs : am_sto ins r1 r2 lv lv' st st') : am_wt n st' ∧ am_wl n lv' := by
  cases ins
  case iinc i j => obtain ⟨x, -, h0, rfl⟩ := hs; exact ⟨hw, am_k_s1 hl (by trivial) h0⟩
  case lstore i => obtain ⟨x, rfl, h0⟩ := hs; exact ⟨am_wt_c hw, am_k_s2 hl (by trivial) h0⟩
  case lstore_n i => obtain ⟨x, rfl, h0⟩ := hs; exact ⟨am_wt_c hw, am_k_s2 hl (by trivial) h0⟩
  case dstore i => obtain ⟨x, rfl, h0⟩ := hs; exact ⟨am_wt_c hw, am_k_s2 hl (by trivial) h0⟩
  all_goals first
    | exact hs.elim
    | (obtain ⟨x, rfl, h0⟩ := hs; exact ⟨am_wt_c hw, am_k_s1 hl (am_wt_1 hw) h0⟩)
theorem am_k_br {P : Nat → List Value → Prop} (hw : am_wt n st) (hs : am_br ins pc nx r1 st P) : am_br ins pc nx r1 st (fun q st' => am_wt n st' ∧ P q st') := by
  cases ins
  case goto off => exact ⟨hw, hs⟩
  case ifCond c off => obtain ⟨x, r, rfl, h1, h2⟩ := hs; exact ⟨x, r, rfl, fun q => ⟨am_wt_c hw, h1 q⟩, fun q => ⟨am_wt_c hw, h2 q⟩⟩
  case if_icmp c off => obtain ⟨x, y, r, rfl, h1, h2⟩ := hs; exact ⟨x, y, r, rfl, fun q => ⟨am_wt_c (am_wt_c hw), h1 q⟩, fun q => ⟨am_wt_c (am_wt_c hw), h2 q⟩⟩
  case tableswitch d lo hi offs =>
    obtain ⟨x, r, rfl, ⟨tgt, h1, h2, h3⟩ | ⟨off, tgt, h1, h2, h3, h4, h5⟩⟩ := hs
    · exact ⟨x, r, rfl, Or.inl ⟨tgt, h1, h2, am_wt_c hw, h3⟩⟩
    · exact ⟨x, r, rfl, Or.inr ⟨off, tgt, h1, h2, h3, h4, am_wt_c hw, h5⟩⟩
  all_goals exact hs.elim
theorem am_wh_nth (hh : am_wh h) {a : Nat} {e : am_E} (he : am_nth h a = some e) : am_we h.length e := by
  rw [am_nth_eq] at he
  exact hh e (List.mem_of_getElem? he)
theorem am_wh_upd {a : Nat} {e : am_E} (hh : am_wh h) (he : am_we h.length e) : am_wh (am_upd h a e) := by
  intro x hx
  rw [am_upd_len]
  rw [am_upd_eq] at hx
  rcases List.mem_or_eq_of_mem_set hx with h1 | h1
  · exact hh x h1
  · rw [h1]; exact he
theorem am_k_hp (hw : am_wt h.length st) (hh : am_wh h) (hs : am_hp ro ft ins r1 r2 st st' h h') : am_wt h'.length st' ∧ am_wh h' ∧ h'.length = h.length := by
  cases ins
  case getfield i =>
    obtain ⟨a, fs, v, r, rfl, h1, h2, rfl, rfl⟩ := hs
    rw [am_nth_eq] at h2
    exact ⟨am_wt_k (am_wh_nth hh h1 v (List.mem_of_getElem? h2)) (am_wt_c hw), hh, rfl⟩
  case putfield i =>
    obtain ⟨a, fs, v, r, rfl, h1, h2, h3, h4, rfl, rfl⟩ := hs
    refine ⟨by rw [am_upd_len]; exact am_wt_c (am_wt_c hw), am_wh_upd hh (fun x hx => ?_), am_upd_len⟩
    rw [am_upd_eq] at hx
    rcases List.mem_or_eq_of_mem_set hx with q | q
    · exact am_wh_nth hh h1 x q
    · rw [q]; exact am_wt_1 hw
  case getstatic i => obtain ⟨rfl, rfl⟩ := hs; exact ⟨am_wt_k (Or.inr (Nat.le_add_right 1000 r1)) hw, hh, rfl⟩
  case arraylength => obtain ⟨a, t, x, r, rfl, h1, -, rfl, rfl⟩ := hs; exact ⟨am_wt_k trivial (am_wt_c hw), hh, rfl⟩
  case iastore => obtain ⟨a, i, k, f, x, r, rfl, h1, h2, rfl, rfl⟩ := hs; exact ⟨by rw [am_upd_len]; exact am_wt_c (am_wt_c (am_wt_c hw)), am_wh_upd hh trivial, am_upd_len⟩
  case castore => obtain ⟨a, i, k, f, x, r, rfl, h1, h2, rfl, rfl⟩ := hs; exact ⟨by rw [am_upd_len]; exact am_wt_c (am_wt_c (am_wt_c hw)), am_wh_upd hh trivial, am_upd_len⟩
  case bastore => obtain ⟨a, i, k, f, x, r, rfl, h1, h2, rfl, rfl⟩ := hs; exact ⟨by rw [am_upd_len]; exact am_wt_c (am_wt_c (am_wt_c hw)), am_wh_upd hh trivial, am_upd_len⟩
  case lastore => obtain ⟨a, i, k, f, x, r, rfl, h1, h2, rfl, rfl⟩ := hs; exact ⟨by rw [am_upd_len]; exact am_wt_c (am_wt_c (am_wt_c hw)), am_wh_upd hh trivial, am_upd_len⟩
  case dastore => obtain ⟨a, i, k, f, x, r, rfl, h1, h2, rfl, rfl⟩ := hs; exact ⟨by rw [am_upd_len]; exact am_wt_c (am_wt_c (am_wt_c hw)), am_wh_upd hh trivial, am_upd_len⟩
  all_goals first
    | exact hs.elim
    | (obtain ⟨a, i, k, f, r, rfl, h1, h2, rfl, rfl⟩ := hs; exact ⟨am_wt_k trivial (am_wt_c (am_wt_c hw)), hh, rfl⟩)
theorem am_wv_nref {v : Value} (h : v.isRef = true → v = .null) : am_wv n v := by
  cases v <;> first | trivial | cases h rfl
theorem am_wh_app {e : am_E} (hh : am_wh h) (he : am_we (h.length + 1) e) : am_wh (h ++ [e]) := by
  intro x hx
  rw [List.length_append]
  rcases List.mem_append.mp hx with q | q
  · exact am_we_le (hh x q) (by omega)
  · rw [List.mem_singleton.mp q]; exact he
theorem am_k_al (hdf : ∀ i, ins = .new i → ∀ v ∈ df r1, v.isRef = true → v = .null) (hw : am_wt h.length st) (hh : am_wh h) (hs : am_al df ins r1 r2 st st' h h' bc bs bc' bs') : am_wt h'.length st' ∧ am_wh h' ∧ h'.length = h.length + 1 := by
  cases ins
  case new i =>
    obtain ⟨-, -, rfl, rfl⟩ := hs
    exact ⟨am_wt_k (Or.inl (by simp)) (fun v hv => am_wv_le (hw v hv) (by simp)), am_wh_app hh (fun v hv => am_wv_nref (hdf i rfl v hv)), by simp⟩
  case newarray i =>
    obtain ⟨N, r, rfl, -, -, -, rfl, rfl⟩ := hs
    exact ⟨am_wt_k (Or.inl (by simp)) (fun v hv => am_wv_le (am_wt_c hw v hv) (by simp)), am_wh_app hh trivial, by simp⟩
  all_goals exact hs.elim
theorem am_pop_w : ∀ (k : Nat) (acc st : List Value) (as rest : List Value), am_pop k acc st = some (as, rest) → am_wt n acc → am_wt n st → am_wt n as ∧ am_wt n rest
  | 0, acc, st, as, rest, h, h1, h2 => by
    simp only [am_pop, Option.some.injEq, Prod.mk.injEq] at h
    obtain ⟨rfl, rfl⟩ := h
    exact ⟨h1, h2⟩
  | k + 1, acc, [], as, rest, h, h1, h2 => by simp [am_pop] at h
  | k + 1, acc, v :: st, as, rest, h, h1, h2 => am_pop_w k (v :: acc) st as rest h (am_wt_k (am_wt_1 h2) h1) (am_wt_c h2)
theorem am_pop_eq : ∀ (k : Nat) (acc st : List Value) (as rest : List Value), am_pop k acc st = some (as, rest) → acc.reverse ++ st = as.reverse ++ rest ∧ as.length = acc.length + k
  | 0, acc, st, as, rest, h => by
    simp only [am_pop, Option.some.injEq, Prod.mk.injEq] at h
    obtain ⟨rfl, rfl⟩ := h
    exact ⟨rfl, rfl⟩
  | k + 1, acc, [], as, rest, h => by simp [am_pop] at h
  | k + 1, acc, v :: st, as, rest, h => by
    obtain ⟨h1, h2⟩ := am_pop_eq k (v :: acc) st as rest h
    exact ⟨by rw [← h1]; simp, by rw [h2, List.length_cons]; omega⟩
end AMK
/-- an address more -/
def am_ad (ad : Nat → Nat) (n q : Nat) : Nat → Nat := fun k => if k = n then q else ad k
theorem am_ad_ag {ad : Nat → Nat} {n q : Nat} (hn : n < 1000) : am_ag n ad (am_ad ad n q) := fun k hk => by
  unfold am_ad
  rw [if_neg (by omega)]
section AMN
variable {p : Program} {l : Launch} {e : Env} {R : Room} {s : State} {m : MethodId} {args : Array Value} {below : List Frame} {meth : Method} {c : Code} {H : Heap} {locs : List Loc} {cells slots : Nat} {Q : State → Prop}
variable {cc : ByteArray} {pc len r1 r2 nL bc bs bc' bs' : Nat} {ls : Array Slot} {y : MethodName} {Ts nest : List Jvm.Cond} {ins : Instr} {st st' : List Value} {ad : Nat → Nat} {h h' : am_H} {D : va_G} {cl : List vw_C} {cA : Nat → ClassId} {A : Nat → Prop} {sts : List (String × String × String)} {ft : Nat → Nat → FieldType} {df : Nat → List Value}
theorem am_z_cell (cc9 : ClassId) (N : Nat) : ∀ (t : Nat) (ty : FieldType), am_nth am_ty t = some ty → vp_cell cc9 (N, am_z t) = arrV cc9 N (fun _ => defaultValue ty)
  | 0, ty, h => by cases h; rfl
  | 1, ty, h => by cases h; rfl
  | 2, ty, h => by cases h; rfl
  | 3, ty, h => by cases h; rfl
  | 4, ty, h => by cases h; rfl
  | _ + 5, ty, h => by simp [am_nth, am_ty] at h
theorem am_bytes {N t : Nat} {ty : FieldType} (hN : N < 100000) (h : am_nth am_ty t = some ty) : N * componentBytes ty ≤ 536870912 := by
  have : componentBytes ty ≤ 8 := by
    rcases t with _ | _ | _ | _ | _ | t
    all_goals first | (simp [am_nth, am_ty] at h; done) | (cases h; decide)
  calc N * componentBytes ty ≤ 100000 * 8 := Nat.mul_le_mul (by omega) this
    _ ≤ 536870912 := by decide
theorem am_same {U : State} {ci t : Nat} {cl9 : ClassId} {ty : FieldType} (hK : va_K D cl (am_tys cA) U) (hK' : va_K D cl (am_tys cA ++ [(cl9, ty)]) U) (ht : am_nth am_ty t = some ty) : cl9 = cA t := by
  have h2 := (hK'.2 5 (cl9, ty) rfl).2
  rcases t with _ | _ | _ | _ | _ | t
  · cases ht; exact Option.some.inj (h2.symm.trans (hK.2 0 (cA 0, .int) rfl).2)
  · cases ht; exact Option.some.inj (h2.symm.trans (hK.2 1 (cA 1, .char) rfl).2)
  · cases ht; exact Option.some.inj (h2.symm.trans (hK.2 2 (cA 2, .boolean) rfl).2)
  · cases ht; exact Option.some.inj (h2.symm.trans (hK.2 3 (cA 3, .long) rfl).2)
  · cases ht; exact Option.some.inj (h2.symm.trans (hK.2 4 (cA 4, .double) rfl).2)
  · simp [am_nth, am_ty] at ht
set_option maxHeartbeats 4000000 in
theorem am_W_al (hx : p.tables.exec = Jvm.exec) (hb : c.code = cc) (hown : s.vm.findClass y.cls = some m.cls) (hts : ∀ w ∈ Ts, w.before args s = true) (hcl : am_okC cl Ts ft df) (hK : va_K D cl (am_tys cA) s) (hA : ∀ q, s.heap.size ≤ q → A q)
    (hdg : decode cc pc = .ok (ins, len)) (hlen : am_len ins len) (hok : am_okH cl sts y Ts nest ins r1 r2) (hP : va_P D cl (am_ws cA ad 0 h) H) (hD : va_D A (am_ws cA ad 0 h)) (hS : va_S A s.heap H locs) (hlt : h.length < 1000) (hw : am_wt h.length st) (hh : am_wh h) (hs : am_al df ins r1 r2 st st' h h' bc bs bc' bs') (hc : cells + bc ≤ R.cells) (hsl : slots + bs ≤ R.slots)
    (k : ∀ (q : Nat) (H1 : Heap) (cells' slots' : Nat), cells' + bc' = cells + bc → slots' + bs' = slots + bs → va_P D cl (am_ws cA (am_ad ad h.length q) 0 h') H1 → va_D A (am_ws cA (am_ad ad h.length q) 0 h') → va_S A s.heap H1 locs → W p l e R s m args below meth c H1 locs cells' slots' Q (F0 m (pc + len) ls (st'.map (am_v (am_ad ad h.length q))))) : W p l e R s m args below meth c H locs cells slots Q (F0 m pc ls (st.map (am_v ad))) := by
  have key : ∀ (q : Nat) (x : am_E), am_e cA (am_ad ad h.length q) x = am_e cA ad x → am_ws cA (am_ad ad h.length q) 0 (h ++ [x]) = am_ws cA ad 0 h ++ [(q, am_e cA ad x)] := fun q x hx9 => by
    rw [am_ws_app, am_ws_ag (am_ad_ag hlt) h 0 (by omega) hh, hx9]
    congr 3
    unfold am_ad
    rw [if_pos rfl]
  cases ins
  case new i =>
    obtain rfl : len = 3 := hlen
    obtain ⟨rfl, rfl, rfl, rfl⟩ := hs
    obtain ⟨C, T, N, g1, rfl, g3, g4, g5⟩ := hok
    obtain ⟨k1, k2, k3, k4, k5⟩ := hcl _ _ _ _ g1
    have hdf : (df r1).map (am_v ad) = df r1 := by
      have : ∀ v ∈ df r1, am_v ad v = v := fun v hv => by
        cases v <;> first | rfl | cases k5 _ hv rfl
      rw [List.map_congr_left this, List.map_id']
    have hdf2 : ∀ q, (df r1).map (am_v (am_ad ad h.length q)) = df r1 := fun q => by
      have : ∀ v ∈ df r1, am_v (am_ad ad h.length q) v = v := fun v hv => by
        cases v <;> first | rfl | cases k5 _ hv rfl
      rw [List.map_congr_left this, List.map_id']
    refine va_new (D := D) hx hb hts k1 (ft r1) k2 hown (hts _ g3) (hts _ g4) (hts _ g5) hK hP hD hS hA g1 (fs := df r1) k4 (by omega) (by omega) hdg (fun q H1 hP1 hD1 hS1 => ?_)
    have e1 := key q (.inr (r1, df r1)) (by show Sum.inr (r1, _) = Sum.inr (r1, _); rw [hdf, hdf2])
    have e2 : am_e cA ad (.inr (r1, df r1)) = .inr (r1, df r1) := by show Sum.inr (r1, _) = Sum.inr (r1, _); rw [hdf]
    rw [e2] at e1
    have h3 := k q H1 (cells + 1) (slots + r2) (by omega) (by omega) (by rw [e1]; exact hP1) (by rw [e1]; exact hD1) hS1
    have e3 : (Value.ref h.length :: st).map (am_v (am_ad ad h.length q)) = .ref q :: st.map (am_v ad) := by
      rw [List.map_cons, am_t_ag hw (am_ad_ag hlt)]
      congr 1
      show Value.ref (am_ad ad h.length q h.length) = _
      unfold am_ad
      rw [if_pos rfl]
    rw [e3] at h3
    exact h3
  case newarray a =>
    obtain rfl : len = 2 := hlen
    obtain ⟨N, r, rfl, hN, rfl, rfl, rfl, rfl⟩ := hs
    obtain ⟨g1, g2⟩ := hok
    have hN9 : N < 100000 := Nat.le_of_ble_eq_true hN
    refine va_newa (D := D) (ty := newarray.typeOf a) (a0 := (N, am_z r1)) (N' := N) hx hb (hts _ g2) rfl hK hP hD hS hA (fun cc9 => am_z_cell cc9 N r1 _ g1) (nI_pos (n := N) (by omega)) (nI_clamp (n := N) (by omega)) (am_bytes hN9 g1) (by omega) (by omega) hdg (fun q cA9 H1 hK1 hP1 hD1 hS1 => ?_)
    obtain rfl := am_same (ci := 0) hK hK1 g1
    have e1 := key q (.inl (r1, N, am_z r1)) rfl
    have h3 := k q H1 (cells + 1) (slots + N) (by omega) (by omega) (by rw [e1]; exact hP1) (by rw [e1]; exact hD1) hS1
    have e3 : (Value.ref h.length :: r).map (am_v (am_ad ad h.length q)) = .ref q :: r.map (am_v ad) := by
      rw [List.map_cons, am_t_ag (am_wt_c hw) (am_ad_ag hlt)]
      congr 1
      show Value.ref (am_ad ad h.length q h.length) = _
      unfold am_ad
      rw [if_pos rfl]
    rw [e3] at h3
    exact h3
  all_goals exact hs.elim
end AMN
