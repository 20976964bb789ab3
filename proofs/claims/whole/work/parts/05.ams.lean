/-! WHAT THE ABSTRACT MACHINE SAYS, THE JVM DOES: calls, ends, and the theorem am_sound. -/
/-- what is the same throughout: the places of things, the tables, what is given for good -/
def am_In (D : va_G) (cl : List vw_C) (cA : Nat → ClassId) (ro : am_H) (sts : List (String × String × String)) (nest : List Jvm.Cond) (ad : Nat → Nat) (h : am_H) (sz : Nat) (U : State) : Prop :=
  U.heap.size = sz ∧ va_P D cl (am_ws cA ad 0 h) U.heap ∧ va_D (fun _ => True) (am_ws cA ad 0 h) ∧ va_K D cl (am_tys cA) U ∧
  (∀ k e, am_nth ro k = some e → am_T e (ad (1000 + k)) (va_A (am_ws cA ad 0 h) sz) U U.heap) ∧
  (∀ k q, am_nth sts k = some q → va_Z q.1 q.2.1 q.2.2 (.ref (ad (1000 + k))) (va_A (am_ws cA ad 0 h) sz) U U.heap) ∧ ∀ w ∈ nest, va_Nw w U
/-- a method's end -/
def am_Out (D : va_G) (cl : List vw_C) (cA : Nat → ClassId) (ad : Nat → Nat) (h : am_H) (sz : Nat) (K : am_K) (st : State) (oc : Outcome) (t : State) : Prop :=
  (∃ (r : Option Value) (h' : am_H) (ad' : Nat → Nat), oc = .returned (r.map (am_v ad')) ∧ K r h' ∧ am_ag h.length ad ad' ∧ h.length ≤ h'.length ∧ h'.length ≤ 1000 ∧ am_wh h' ∧ am_wt h'.length r.toList ∧ va_P D cl (am_ws cA ad' 0 h') t.heap ∧ va_D (va_A (am_ws cA ad 0 h) sz) (am_ws cA ad' 0 h')) ∧ va_F (va_A (am_ws cA ad 0 h) sz) st t
def am_isN : Jvm.Cond → Bool
  | .methodLinkNest .. => true
  | .fieldLinkNest .. => true
  | _ => false
theorem am_nw_same {w : Jvm.Cond} (hw : am_isN w = true) {u U : State} (h : u.vm = U.vm) (hZ : va_Nw w u) : va_Nw w U := by
  cases w <;> first | (exact va_Nw.same rfl h hZ) | (cases hw)
theorem am_nw_warm {w : Jvm.Cond} (hw : am_isN w = true) {s U : State} (hW : s.WarmedH U.vm) (hZ : va_Nw w s) : va_Nw w U := by
  cases w <;> first | (exact va_Nw.warmM hW hZ) | (exact va_Nw.warmF hW hZ) | (cases hw)
theorem am_In_blind {D : va_G} {cl : List vw_C} {cA : Nat → ClassId} {ro : am_H} {sts : List (String × String × String)} {nest : List Jvm.Cond} {ad : Nat → Nat} {h : am_H} {sz : Nat} {av : List Value} (hn : ∀ w ∈ nest, am_isN w = true) : FrameBlind (va_Pc av (am_In D cl cA ro sts nest ad h sz)) := by
  rintro a U g mk ⟨q0, q1, qP, qD, qK, q4, q5, q6⟩
  exact ⟨q0, q1, qP, qD, va_K.moved (u := U) (U := U.calling g mk a) (Vm.Alike.refl U.vm) qK, fun k e he => am_T_move (s := U) (U := U.calling g mk a) (Vm.Alike.refl U.vm) (fun _ _ _ => rfl) (fun _ q => q) (q4 k e he), fun k q hq => va_Z.moved (u := U) (U := U.calling g mk a) (Vm.Alike.refl U.vm) (q5 k q hq), fun w hw => am_nw_same (u := U) (U := U.calling g mk a) (hn w hw) rfl (q6 w hw)⟩
/-- what the tables say of a method -/
def am_okM (Ts : List Jvm.Cond) (M : am_M) (n : Nat) : Prop := Jvm.Cond.code M.1 M.2.1 M.2.2.1 M.2.2.2.1 ∈ Ts ∧ (M.1.cls ≠ "java/lang/invoke/MethodHandle" ∧ M.1.cls ≠ "java/lang/invoke/VarHandle") ∧ (parseMethodDescriptor M.1.desc).map (fun d => d.parameters.length) = some n ∧ M.2.2.1 ≤ 21 ∧ plainFor M.1 = true ∧ Jvm.Cond.initialized M.1.cls ∈ Ts
/-- what the table's numbers are, against the instruction: calls -/
def am_okI (cl : List vw_C) (y : MethodName) (Ts nest : List Jvm.Cond) (G : Nat → am_M) (nM : Nat) (ins : Instr) (r1 r2 : Nat) : Prop := match ins with
  | .invokevirtual i => r1 < nM ∧ (∃ n T N, (G r1).2.2.2.2.2.1 = n + 1 ∧ am_okM Ts (G r1) n ∧ cl[r2]? = some ((G r1).1.cls, T, N)) ∧ Jvm.Cond.methodLink y.cls i (G r1).1 ∈ Ts ∧ Jvm.Cond.instanceMethod (G r1).1 ∈ Ts ∧ Jvm.Cond.selects (G r1).1.cls (G r1).1 (G r1).1 ∈ Ts
  | .invokestatic i => (r2 = 2 ∧ Jvm.Cond.methodLink y.cls i ⟨"java/lang/Float", "floatToRawIntBits", "(F)I"⟩ ∈ Ts ∧ Jvm.Cond.native ⟨"java/lang/Float", "floatToRawIntBits", "(F)I"⟩ ∈ Ts ∧ Jvm.Cond.static ⟨"java/lang/Float", "floatToRawIntBits", "(F)I"⟩ ∈ Ts ∧ Jvm.Cond.initialized "java/lang/Float" ∈ Ts) ∨ (r1 < nM ∧ am_okM Ts (G r1) (G r1).2.2.2.2.2.1 ∧ Jvm.Cond.static (G r1).1 ∈ Ts ∧ ((r2 = 0 ∧ Jvm.Cond.methodLink y.cls i (G r1).1 ∈ Ts) ∨ (r2 = 1 ∧ ∃ host, Jvm.Cond.methodLinkNest y.cls i (G r1).1 host ∈ nest)))
  | .invokespecial i => (r2 = 2 ∧ Jvm.Cond.methodLink y.cls i Lib.objectInit ∈ Ts ∧ Jvm.Cond.instanceMethod Lib.objectInit ∈ Ts ∧ Jvm.Cond.code Lib.objectInit ⟨#[0xb1]⟩ 1 none ∈ Ts) ∨ (r1 < nM ∧ (∃ n, (G r1).2.2.2.2.2.1 = n + 1 ∧ am_okM Ts (G r1) n) ∧ Jvm.Cond.instanceMethod (G r1).1 ∈ Ts ∧ (G r1).1.name = "<init>" ∧ (G r1).2.2.2.1 = none ∧ ((r2 = 0 ∧ Jvm.Cond.methodLink y.cls i (G r1).1 ∈ Ts) ∨ (r2 = 1 ∧ ∃ host, Jvm.Cond.methodLinkNest y.cls i (G r1).1 host ∈ nest)))
  | _ => True
def am_rm (G : Nat → am_M) (d m : Nat) : Room := { frames := d, cells := (G m).2.2.2.2.2.2.1, slots := (G m).2.2.2.2.2.2.2, locals := 40 * d }
def am_wd (Ts : List Jvm.Cond) (M : am_M) : List Jvm.Cond := Jvm.Cond.code M.1 M.2.1 M.2.2.1 M.2.2.2.1 :: Ts
theorem am_good {Ts : List Jvm.Cond} (hg : ∀ w ∈ Ts, goodWord w = true) {M : am_M} (hM : Jvm.Cond.code M.1 M.2.1 M.2.2.1 M.2.2.2.1 ∈ Ts) : GoodIn Ts (am_wd Ts M) := by
  intro w hw
  rcases List.mem_cons.mp hw with h | h
  · rw [h]; exact ⟨hM, good_of_word (hg _ hM)⟩
  · exact ⟨h, good_of_word (hg _ h)⟩
section AMC
variable {p : Program} {l : Launch} {e : Env} {R : Room} {s : State} {m : MethodId} {args : Array Value} {below : List Frame} {meth : Method} {c : Code} {H : Heap} {locs : List Loc} {cells slots : Nat} {Q : State → Prop}
variable {cc : ByteArray} {pc len r1 r2 nL bc bs nM d : Nat} {ls : Array Slot} {y : MethodName} {Ts nest : List Jvm.Cond} {ins : Instr} {st st' : List Value} {ad : Nat → Nat} {h h' : am_H} {D : va_G} {cl : List vw_C} {cA : Nat → ClassId} {A : Nat → Prop} {ro : am_H} {sts : List (String × String × String)} {ft : Nat → Nat → FieldType} {df : Nat → List Value} {G : Nat → am_M}
/-- behind a call -/
theorem am_behind {mc ms : Nat} {st0 rest : List Value} {K : am_K} (hr : va_Run p l e R s m args below meth c H locs cells slots mc ms (F0 m pc ls st0) rest (am_Out D cl cA ad h H.size K) (va_A (am_ws cA ad 0 h) H.size)) (hS : va_S A s.heap H locs) (hA : ∀ q, va_A (am_ws cA ad 0 h) H.size q → A q)
    (kk : ∀ (r : Option Value) (h' : am_H) (ad' : Nat → Nat) (H1 : Heap) (locs1 : List Loc), K r h' → am_ag h.length ad ad' → h.length ≤ h'.length → h'.length ≤ 1000 → am_wh h' → am_wt h'.length r.toList → va_P D cl (am_ws cA ad' 0 h') H1 → va_D A (am_ws cA ad' 0 h') → va_S A s.heap H1 locs1 →
      W p l e R s m args below meth c H1 locs1 (cells + mc) (slots + ms) Q (F0 m (pc + 3) ls ((r.map (am_v ad')).toList ++ rest))) : W p l e R s m args below meth c H locs cells slots Q (F0 m pc ls st0) := by
  intro T hT X
  obtain ⟨v, st₀, t, T', L, h0, X', hL, e1, e2, ⟨⟨r, h', ad', hv, g1, g2, g3, g4, g5, g6, g7, g8⟩, hz, hk⟩, st⟩ := hr T hT X
  have hv2 : v = r.map (am_v ad') := by injection hv
  subst hv2
  rw [h0] at hz hk
  obtain ⟨t2, a1, b1⟩ := kk r h' ad' T'.heap (locs ++ L) g1 g2 g3 g4 g5 g6 (by rw [e1]; exact g7) (g8.weaken (fun _ q _ hq => hA q.1 hq))
    ⟨Nat.le_trans hS.1 (by rw [e1]; exact hz), fun q h1 h2 => by rw [e1, hk q (Nat.lt_of_lt_of_le h1 hS.1) (fun z => h2 (hA q z))]; exact hS.2.1 q h1 h2, fun q hq => by
      rcases List.mem_append.mp hq with h | h
      · exact hS.2.2 q h
      · exact hA _ (hL q h)⟩ T' rfl X'
  exact ⟨t2, st t2 a1, b1⟩
theorem am_A_in (hD : va_D A (am_ws cA ad 0 h)) (hA : ∀ q, s.heap.size ≤ q → A q) (hS : va_S A s.heap H locs) : ∀ q, va_A (am_ws cA ad 0 h) H.size q → A q := by
  rintro q (⟨k, e, hk⟩ | hq)
  · exact hD.2 k _ hk
  · exact hA q (Nat.le_trans hS.1 hq)
theorem am_In_call {U : State} (hn : ∀ w ∈ nest, am_isN w = true) (hne : ∀ w ∈ nest, va_Nw w s) (hK : va_K D cl (am_tys cA) s)
    (hro : ∀ k e, am_nth ro k = some e → am_T e (ad (1000 + k)) A s s.heap) (hst : ∀ k q, am_nth sts k = some q → va_Z q.1 q.2.1 q.2.2 (.ref (ad (1000 + k))) A s s.heap)
    (hP : va_P D cl (am_ws cA ad 0 h) H) (hD : va_D A (am_ws cA ad 0 h)) (hA : ∀ q, s.heap.size ≤ q → A q) (hS : va_S A s.heap H locs) (hU : U.heap = H) (hW : s.WarmedH U.vm) : am_In D cl cA ro sts nest ad h H.size U := by
  have hAA := am_A_in hD hA hS
  refine ⟨by rw [hU], by rw [hU]; exact hP, hD.weaken (fun _ _ _ _ => trivial), va_K.moved hW.alike hK, fun k e he => ?_, fun k q hq => ?_, fun w hw => am_nw_warm (hn w hw) hW (hne w hw)⟩
  · rw [hU]
    exact am_T_move hW.alike (fun a h1 h2 => hS.2.1 a h1 h2) hAA (hro k e he)
  · rw [hU]
    exact va_Z.moved hW.alike (va_Z.narrow (va_Z.kept (hst k q hq) (fun a h1 h2 => hS.2.1 a h1 h2)) hAA)
set_option maxHeartbeats 4000000 in
theorem am_W_in {C : am_C} {P : List Value → am_H → Nat → Nat → Prop} (hx : p.tables.exec = Jvm.exec) (hb : c.code = cc) (hml : c.maxLocals = nL) (hown : s.vm.findClass y.cls = some m.cls) (hts : ∀ w ∈ Ts, w.before args s = true) (hg : ∀ w ∈ Ts, goodWord w = true) (hn : ∀ w ∈ nest, am_isN w = true) (hne : ∀ w ∈ nest, va_Nw w s) (hK : va_K D cl (am_tys cA) s)
    (hro : ∀ k e, am_nth ro k = some e → am_T e (ad (1000 + k)) A s s.heap) (hst : ∀ k q, am_nth sts k = some q → va_Z q.1 q.2.1 q.2.2 (.ref (ad (1000 + k))) A s s.heap) (hA : ∀ q, s.heap.size ≤ q → A q)
    (hC : ∀ (m' : Nat) (as : List Value) (h : am_H) (K : am_K) (ad : Nat → Nat) (sz : Nat), m' < nM → C m' as h K → am_wh h → am_wt h.length as → h.length ≤ 1000 → Met l (G m').1 (am_wd Ts (G m')) (am_rm G d m') (va_Pc (as.map (am_v ad)) (am_In D cl cA ro sts nest ad h sz)) (fun _ => am_Out D cl cA ad h sz K) (am_rm G d m').cells (am_rm G d m').slots (va_A (am_ws cA ad 0 h) sz))
    (hRf : d + 1 ≤ R.frames) (hRl : 40 * d + 40 ≤ R.locals) (hls : ls.size = nL)
    (hdg : decode cc pc = .ok (ins, len)) (hlen : am_len ins len) (hok : am_okI cl y Ts nest G nM ins r1 r2) (hP : va_P D cl (am_ws cA ad 0 h) H) (hD : va_D A (am_ws cA ad 0 h)) (hS : va_S A s.heap H locs) (hlt : h.length ≤ 1000) (hw : am_wt h.length st) (hh : am_wh h) (hs : am_in G C ins r1 r2 st h bc bs P) (hc : cells + bc ≤ R.cells) (hsl : slots + bs ≤ R.slots)
    (k : ∀ (st' : List Value) (h' : am_H) (bc' bs' : Nat) (ad' : Nat → Nat) (H1 : Heap) (locs1 : List Loc) (cells' slots' : Nat), P st' h' bc' bs' → cells' + bc' = cells + bc → slots' + bs' = slots + bs → am_ag h.length ad ad' → h.length ≤ h'.length → h'.length ≤ 1000 → am_wh h' → am_wt h'.length st' → va_P D cl (am_ws cA ad' 0 h') H1 → va_D A (am_ws cA ad' 0 h') → va_S A s.heap H1 locs1 → W p l e R s m args below meth c H1 locs1 cells' slots' Q (F0 m (pc + len) ls (st'.map (am_v ad')))) : W p l e R s m args below meth c H locs cells slots Q (F0 m pc ls (st.map (am_v ad))) := by
  have hAA := am_A_in hD hA hS
  have go : ∀ {as rest : List Value} {bc' bs' mc ms : Nat} {n : Nat}, len = 3 → am_pop n [] st = some (as, rest) → bc = bc' + mc → bs = bs' + ms →
      va_Run p l e R s m args below meth c H locs cells slots mc ms (F0 m pc ls (st.map (am_v ad))) (rest.map (am_v ad)) (am_Out D cl cA ad h H.size (fun r h' => P (r.toList ++ rest) h' bc' bs')) (va_A (am_ws cA ad 0 h) H.size) → W p l e R s m args below meth c H locs cells slots Q (F0 m pc ls (st.map (am_v ad))) := by
    intro as rest bc' bs' mc ms n h3 hpop hbc hbs hr
    subst h3
    obtain ⟨w1, w2⟩ := am_pop_w n [] st as rest hpop (fun _ q => by cases q) hw
    refine am_behind hr hS hAA (fun r h' ad' H1 locs1 g1 g2 g3 g4 g5 g6 g7 g8 g9 => ?_)
    have h9 := k (r.toList ++ rest) h' bc' bs' ad' H1 locs1 (cells + mc) (slots + ms) g1 (by omega) (by omega) g2 g3 g4 g5 (fun v hv => (List.mem_append.mp hv).elim (g6 v) (fun q => am_wv_le (w2 v q) g3)) g7 g8 g9
    rw [List.map_append, am_t_ag w2 g2] at h9
    cases r <;> exact h9
  have hin : ∀ U : State, U.heap = H → s.WarmedH U.vm → am_In D cl cA ro sts nest ad h H.size U := fun U hU hW => am_In_call hn hne hK hro hst hP hD hA hS hU hW
  cases ins
  case invokevirtual i =>
    obtain ⟨a, fs, as, rest, bc', bs', hpop, hrc, hcs, hbc, hbs, hcall⟩ := hs
    obtain ⟨o1, ⟨n, T, N, o2, ⟨o3, o4, o5, o6, o7, o8⟩, o9⟩, p1, p2, p3⟩ := hok
    have h3 : len = 3 := hlen
    subst h3
    obtain ⟨w1, w2⟩ := am_pop_w _ [] st _ rest hpop (fun _ q => by cases q) hw
    obtain ⟨e1, e2⟩ := am_pop_eq _ [] st _ rest hpop
    have hl : as.length = n := by rw [o2, List.length_cons] at e2; simp at e2; omega
    have hstk : st.map (am_v ad) = (as.map (am_v ad)).reverse ++ .ref (ad a) :: rest.map (am_v ad) := by
      have : st = as.reverse ++ (.ref a :: rest) := by simpa using e1
      rw [this]; simp [am_v]
    refine go rfl hpop hbc hbs (va_runV (As := as.map (am_v ad)) (rest := rest.map (am_v ad)) ⟨hx, hb, hml, hown, hts⟩ (hC r1 (.ref a :: as) h _ ad H.size o1 hcall hh w1 hlt) (cwV (C := (G r1).1.cls) (ret := (G r1).2.2.2.1) n hts (fun w hw9 => ?_) rfl rfl rfl ⟨rfl, o4.1, o4.2, o5⟩ ⟨hRf, ?_⟩) ⟨am_In_blind hn, va_recv hK hP o9 (am_ws_at hrc), fun U hU hW => ⟨rfl, hin U hU hW⟩⟩ rfl (by rw [List.length_map]; exact hl) hls hstk (lv_room (by rw [am_cs_sum]; exact Nat.le_of_ble_eq_true hcs)) hdg ⟨?_, ?_⟩)
    · rcases List.mem_append.mp hw9 with q | q
      · have : w ∈ Ts := by
          simp only [List.mem_cons, List.not_mem_nil, or_false] at q
          rcases q with q | q | q | q <;> rw [q] <;> assumption
        exact ⟨this, good_of_word (hg _ this)⟩
      · exact am_good hg o3 w q
    · show 8 + ((G r1).2.2.1 + 11) + 40 * d ≤ R.locals
      omega
    · show cells + (G r1).2.2.2.2.2.2.1 ≤ R.cells
      omega
    · show slots + (G r1).2.2.2.2.2.2.2 ≤ R.slots
      omega
  case invokestatic i =>
    have h3 : len = 3 := hlen
    subst h3
    rcases hs with ⟨h2, b, r, rfl, hcs, hk⟩ | ⟨h2, as, rest, bc', bs', hpop, hcs, hbc, hbs, hcall⟩
    · rcases hok with ⟨-, o1, o2, o3, o4⟩ | ⟨-, -, -, ⟨h4, -⟩ | ⟨h4, -⟩⟩
      · exact vn_f2i hx hb (hml.trans hls.symm) hown (hts _ o1) (hts _ o2) (hts _ o3) (hts _ o4) (by omega) (by rw [am_cs_sum]; have := Nat.le_of_ble_eq_true hcs; omega) hdg (k (.int b.toInt32 :: r) h bc bs ad H locs cells slots hk rfl rfl am_ag_rf (Nat.le_refl _) hlt hh (am_wt_k trivial (am_wt_c hw)) hP hD hS)
      · omega
      · omega
    obtain ⟨o1, ⟨o3, o4, o5, o6, o7, o8⟩, p1, p2⟩ : r1 < nM ∧ am_okM Ts (G r1) (G r1).2.2.2.2.2.1 ∧ Jvm.Cond.static (G r1).1 ∈ Ts ∧ ((r2 = 0 ∧ Jvm.Cond.methodLink y.cls i (G r1).1 ∈ Ts) ∨ (r2 = 1 ∧ ∃ host, Jvm.Cond.methodLinkNest y.cls i (G r1).1 host ∈ nest)) := by
      rcases hok with ⟨h4, -⟩ | h4
      · omega
      · exact h4
    obtain ⟨w1, w2⟩ := am_pop_w _ [] st _ rest hpop (fun _ q => by cases q) hw
    obtain ⟨e1, e2⟩ := am_pop_eq _ [] st _ rest hpop
    have hl : as.length = (G r1).2.2.2.2.2.1 := by simpa using e2
    have hstk : st.map (am_v ad) = (as.map (am_v ad)).reverse ++ rest.map (am_v ad) := by
      have : st = as.reverse ++ rest := by simpa using e1
      rw [this]; simp
    have hRl' : 8 + ((G r1).2.2.1 + 11) + 40 * d ≤ R.locals := by omega
    have hcR : cells + (G r1).2.2.2.2.2.2.1 ≤ R.cells ∧ slots + (G r1).2.2.2.2.2.2.2 ≤ R.slots := ⟨by omega, by omega⟩
    rcases p2 with ⟨-, p2⟩ | ⟨-, host, p2⟩
    · refine go rfl hpop hbc hbs (va_runS (As := as.map (am_v ad)) (rest := rest.map (am_v ad)) ⟨hx, hb, hml, hown, hts⟩ (hC r1 as h _ ad H.size o1 hcall hh w1 hlt) (va_cwS (ret := (G r1).2.2.2.1) _ hts (fun w hw9 => ?_) rfl rfl rfl ⟨o4.1, o4.2, o5⟩ ⟨hRf, hRl'⟩) ⟨am_In_blind hn, fun U hU hW => ⟨rfl, hin U hU hW⟩⟩ rfl (by rw [List.length_map]; exact hl) hls hstk (lv_room (by rw [am_cs_sum]; exact Nat.le_of_ble_eq_true hcs)) hdg hcR)
      rcases List.mem_append.mp hw9 with q | q
      · have : w ∈ Ts := by
          simp only [List.mem_cons, List.not_mem_nil, or_false] at q
          rcases q with q | q | q <;> rw [q] <;> assumption
        exact ⟨this, good_of_word (hg _ this)⟩
      · exact am_good hg o3 w q
    · exact go rfl hpop hbc hbs (va_runSN (host := host) (As := as.map (am_v ad)) (rest := rest.map (am_v ad)) ⟨hx, hb, hml, hown, hts⟩ (hC r1 as h _ ad H.size o1 hcall hh w1 hlt) ⟨va_cnB (ret := (G r1).2.2.2.1) _ hts (am_good hg o3) rfl rfl rfl (hne _ p2) (hts _ o8) ⟨o4.1, o4.2, o5⟩ ⟨hRf, hRl'⟩, hts _ p1, trivial⟩ ⟨am_In_blind hn, fun U hU hW => ⟨rfl, hin U hU hW⟩⟩ rfl (by rw [List.length_map]; exact hl) hls hstk (lv_room (by rw [am_cs_sum]; exact Nat.le_of_ble_eq_true hcs)) hdg hcR)
  case invokespecial i =>
    have h3 : len = 3 := hlen
    subst h3
    rcases hs with ⟨h2, a, r, rfl, hcs, hk⟩ | ⟨h2, a, as, rest, bc', bs', hpop, hcs, hbc, hbs, hcall⟩
    · rcases hok with ⟨-, o1, o2, o3⟩ | ⟨-, -, -, -, -, ⟨h4, -⟩ | ⟨h4, -⟩⟩
      · refine W.objInit hx hb hown (hts _ o1) (hts _ o2) (hts _ o3) rfl (hls.trans hml.symm) rfl hdg (by omega) ?_ ?_
        · have := lv_room (m := m) (pc := pc) (ls := ls) (rest := []) (st := r.map (am_v ad)) (by rw [am_cs_sum]; exact Nat.le_of_ble_eq_true hcs)
          have e : (F0 m pc ls ((Value.ref a :: r).map (am_v ad))).monitorRoom = (F0 m pc ls []).monitorRoom := rfl
          rw [e]
          omega
        · exact k r h bc bs ad H locs cells slots hk rfl rfl am_ag_rf (Nat.le_refl _) hlt hh (am_wt_c hw) hP hD hS
      · omega
      · omega
    · rcases hok with ⟨h4, -⟩ | ⟨o1, ⟨n, o2, o3, o4, o5, o6, o7, o8⟩, p1, p2, p3, p4⟩
      · omega
      obtain ⟨w1, w2⟩ := am_pop_w _ [] st _ rest hpop (fun _ q => by cases q) hw
      obtain ⟨e1, e2⟩ := am_pop_eq _ [] st _ rest hpop
      have hl : as.length = n := by rw [o2, List.length_cons] at e2; simp at e2; omega
      have hstk : st.map (am_v ad) = (as.map (am_v ad)).reverse ++ .ref (ad a) :: rest.map (am_v ad) := by
        have : st = as.reverse ++ (.ref a :: rest) := by simpa using e1
        rw [this]; simp [am_v]
      have hRl' : 8 + ((G r1).2.2.1 + 11) + 40 * d ≤ R.locals := by omega
      have hcR : cells + (G r1).2.2.2.2.2.2.1 ≤ R.cells ∧ slots + (G r1).2.2.2.2.2.2.2 ≤ R.slots := ⟨by omega, by omega⟩
      have hw0 : am_wd Ts (G r1) = Jvm.Cond.code (G r1).1 (G r1).2.1 (G r1).2.2.1 none :: Ts := by unfold am_wd; rw [p3]
      rcases p4 with ⟨-, p4⟩ | ⟨-, host, p4⟩
      · exact go rfl hpop hbc hbs (va_runI (As := as.map (am_v ad)) (rest := rest.map (am_v ad)) ⟨hx, hb, hml, hown, hts⟩ (hC r1 (.ref a :: as) h _ ad H.size o1 hcall hh w1 hlt) (cwI n hts (am_good hg o3) hw0 rfl rfl (hts _ o8) (hts _ p4) (hts _ p1) p2 ⟨o4.1, o4.2, o5⟩ ⟨hRf, hRl'⟩) ⟨am_In_blind hn, fun U hU hW => ⟨rfl, hin U hU hW⟩⟩ rfl (by rw [List.length_map]; exact hl) hls hstk (lv_room (by rw [am_cs_sum]; exact Nat.le_of_ble_eq_true hcs)) hdg hcR)
      · exact go rfl hpop hbc hbs (va_runIN (host := host) (As := as.map (am_v ad)) (rest := rest.map (am_v ad)) ⟨hx, hb, hml, hown, hts⟩ (hC r1 (.ref a :: as) h _ ad H.size o1 hcall hh w1 hlt) ⟨va_cnB (ret := none) n hts (am_good hg o3) hw0 rfl rfl (hne _ p4) (hts _ o8) ⟨o4.1, o4.2, o5⟩ ⟨hRf, hRl'⟩, p2, hts _ p1⟩ ⟨am_In_blind hn, fun U hU hW => ⟨rfl, hin U hU hW⟩⟩ rfl (by rw [List.length_map]; exact hl) hls hstk (lv_room (by rw [am_cs_sum]; exact Nat.le_of_ble_eq_true hcs)) hdg hcR)
  all_goals exact hs.elim
end AMC
