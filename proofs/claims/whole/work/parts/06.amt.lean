/-! THE THEOREM: what am_Ex says of a method, the JVM does. -/
theorem am_padN_len : ∀ (n : Nat) (lv : am_L), (am_padN n lv).length = n
  | 0, _ => by simp [am_padN]
  | n + 1, [] => by simp [am_padN, am_padN_len n]
  | n + 1, x :: r => by simp [am_padN, am_padN_len n]
theorem am_padN_nth : ∀ (n : Nat) (lv : am_L) (i : Nat) (v : Value), am_nth (am_padN n lv) i = some (some v) → am_nth lv i = some (some v)
  | 0, lv, i, v, h => by simp [am_padN, am_nth] at h
  | n + 1, [], 0, v, h => by simp [am_padN, am_nth] at h
  | n + 1, [], i + 1, v, h => by
    simp only [am_padN, am_nth] at h
    have := am_padN_nth n [] i v h
    simp [am_nth] at this
  | n + 1, x :: r, 0, v, h => by simpa [am_padN, am_nth] using h
  | n + 1, x :: r, i + 1, v, h => by
    simp only [am_padN, am_nth] at h ⊢
    exact am_padN_nth n r i v h
theorem am_sp_len {ad : Nat → Nat} : ∀ vs : List Value, (lg_sl (vs.map (am_v ad))).length = (am_sp vs).length
  | [] => rfl
  | v :: r => by
    have ih := am_sp_len (ad := ad) r
    simp only [lg_sl] at ih
    simp only [lg_sl, List.map_cons, List.flatMap_cons, List.length_append, ih, am_sp, am_c1_cat]
    cases am_c1 v <;> simp <;> omega
theorem am_sp_args {ad : Nat → Nat} : ∀ (vs : List Value) (j i : Nat) (v : Value), am_nth (am_sp vs) i = some (some v) → (j + i, am_v ad v) ∈ lv_args j (vs.map (am_v ad))
  | [], j, i, v, h => by simp [am_sp, am_nth] at h
  | w :: r, j, i, v, h => by
    rw [List.map_cons, lv_args, am_c1_cat]
    rw [am_sp] at h
    cases hc : am_c1 w with
    | true =>
      rw [hc] at h
      cases i with
      | zero =>
        simp only [cond_true, am_nth, Option.some.injEq] at h
        subst h
        exact List.mem_cons_self
      | succ i =>
        have h1 := am_sp_args (ad := ad) r (j + 1) i v h
        rw [show j + (i + 1) = j + 1 + i by omega]
        exact List.mem_cons_of_mem _ (by simpa using h1)
    | false =>
      rw [hc] at h
      cases i with
      | zero =>
        simp only [cond_false, am_nth, Option.some.injEq] at h
        subst h
        exact List.mem_cons_self
      | succ i =>
        cases i with
        | zero => simp [am_nth] at h
        | succ i =>
          have h1 := am_sp_args (ad := ad) r (j + 2) i v h
          rw [show j + (i + 1 + 1) = j + 2 + i by omega]
          exact List.mem_cons_of_mem _ (by simpa using h1)
theorem am_sp_w {n : Nat} : ∀ (vs : List Value), am_wt n vs → am_wl n (am_sp vs)
  | [], _, i, v, h => by simp [am_sp, am_nth] at h
  | w :: r, hw, i, v, h => by
    rw [am_sp] at h
    cases hc : am_c1 w with
    | true =>
      rw [hc] at h
      cases i with
      | zero =>
        simp only [cond_true, am_nth, Option.some.injEq] at h
        subst h
        exact am_wt_1 hw
      | succ i => exact am_sp_w r (am_wt_c hw) i v h
    | false =>
      rw [hc] at h
      cases i with
      | zero =>
        simp only [cond_false, am_nth, Option.some.injEq] at h
        subst h
        exact am_wt_1 hw
      | succ i =>
        cases i with
        | zero => simp [am_nth] at h
        | succ i => exact am_sp_w r (am_wt_c hw) i v h
theorem am_wl_le {n n' : Nat} {lv : am_L} (h : am_wl n lv) (hn : n ≤ n') : am_wl n' lv := fun i v hi => am_wv_le (h i v hi) hn
theorem am_wl_less {n : Nat} {lv lv' : am_L} (hle : am_le lv lv') (h : am_wl n lv') : am_wl n lv := fun i v hi => h i v (hle.2 i v hi)
/-- a row of a method's table, against its bytes -/
def am_okR (cl : List vw_C) (sts : List (String × String × String)) (Ts nest : List Jvm.Cond) (G : Nat → am_M) (nM m pc : Nat) (w : am_R) : Prop :=
  w.1 = .nop ∨ ∃ len, decode (G m).2.1 pc = .ok (w.1, len) ∧ w.2.1 = pc + len ∧ am_len w.1 len ∧ am_okS (G m).1.cls Ts pc w.1 w.2.2.1 w.2.2.2 ∧ am_okH cl sts (G m).1 Ts nest w.1 w.2.2.1 w.2.2.2 ∧ am_okI cl (G m).1 Ts nest G nM w.1 w.2.2.1 w.2.2.2
section AMZ
variable {p : Program} {l : Launch} {e : Env} {R : Room} {s : State} {m : MethodId} {args : Array Value} {below : List Frame} {meth : Method} {c : Code} {H : Heap} {locs : List Loc} {cells slots : Nat} {Q : State → Prop}
variable {cc : ByteArray} {pc len : Nat} {ls : Array Slot} {ins : Instr} {st : List Value} {ad : Nat → Nat}
set_option maxHeartbeats 4000000 in
theorem am_W_rt {Qc : Array Value → State → Outcome → State → Prop} {free : Addr → Prop} {mc ms : Nat} {rt : Option FieldType} {K : Option Value → Prop} (hx : p.tables.exec = Jvm.exec) (hb : c.code = cc) (hr : meth.sig.returnType = rt) (hlocks : meth.locks = false) (hdg : decode cc pc = .ok (ins, len)) (hlen : am_len ins len) (hs : am_rt rt ins st K)
    (hq : ∀ (v : Option Value) (t : State), K v → am_wt 0 v.toList → t.heap = H → s.WarmedH t.vm → Qc args s (.returned (v.map (am_v ad))) t) (hf : ∀ q ∈ locs, free q.base) (hc : cells ≤ mc) (hsl : slots ≤ ms) : W p l e R s m args below meth c H locs cells slots (MQ below Qc args s mc ms free) (F0 m pc ls (st.map (am_v ad))) := by
  refine W.widen hc hsl ?_
  cases ins
  case ireturn =>
    obtain rfl : len = 1 := hlen
    obtain ⟨x, ty, rfl, rfl, h1, h2⟩ := hs
    exact W.zret (v := x) hx hb hr h1 (fun t ht hW => hq (some (.int x)) t h2 (am_wt_k trivial (fun _ q => by cases q)) ht hW) hf hdg
  case lreturn =>
    obtain rfl : len = 1 := hlen
    obtain ⟨x, rfl, rfl, h2⟩ := hs
    exact W.lret (v := x) hx hb hr (fun t ht hW => hq (some (.long x)) t h2 (am_wt_k trivial (fun _ q => by cases q)) ht hW) hf hdg
  case freturn =>
    obtain rfl : len = 1 := hlen
    obtain ⟨x, rfl, rfl, h2⟩ := hs
    exact W.fret (v := x) hx hb hr (fun t ht hW => hq (some (.float x)) t h2 (am_wt_k trivial (fun _ q => by cases q)) ht hW) hf hdg
  case dreturn =>
    obtain rfl : len = 1 := hlen
    obtain ⟨x, rfl, rfl, h2⟩ := hs
    exact W.dret (v := x) hx hb hr (fun t ht hW => hq (some (.double x)) t h2 (am_wt_k trivial (fun _ q => by cases q)) ht hW) hf hdg
  case return_ =>
    obtain rfl : len = 1 := hlen
    obtain ⟨rfl, rfl, h2⟩ := hs
    exact W.vret hx hb hr (fun t ht hW => hq none t h2 (fun _ q => by cases q) ht hW) hf hdg
  all_goals exact hs.elim
end AMZ
theorem am_ofW {l : Launch} {y : MethodName} {ws ws' : List Jvm.Cond} {rm : Room} {Pc : Array Value → State → Prop} {Qc : Array Value → State → Outcome → State → Prop} {mc ms : Nat} {free : Addr → Prop} {cc : ByteArray} {maxL : Nat} {ret : Option FieldType}
    (hy : plainFor y = true) (hw : ws = Jvm.Cond.code y cc maxL ret :: ws')
    (body : ∀ p e s m args below meth c s₁, BodyLoose p l y (headSpec ws rm) cc maxL ret e s m args below meth c s₁ → c.maxLocals = maxL → Pc args s →
      W p l e (headSpec ws rm).room s m args below meth c s.heap [] 0 0 (MQ below Qc args s mc ms free) (entryFrame m args maxL)) : Met l y ws rm Pc Qc mc ms free := by
  refine MetFree.of_bodySF (code := cc) (maxLocals := maxL) (ret := ret) hy ?_ ?_
  · intro args s m h hn
    obtain ⟨meth, c, h1, h2, h3, h4, h5, h6, -, -⟩ := Cond.code_spec hn (atoms_spec (ws := ws) h _ (by rw [hw]; exact List.mem_cons_self))
    exact ⟨meth, c, h1, h2, h3, h4, h5, h6⟩
  · intro p e s m args below meth c s₁ B hml hP _
    have hh0 : s₁.heap = s.heap := by rw [B.state]; rfl
    obtain ⟨t, a1, o, b1, b2, b3⟩ := body p e s m args below meth c s₁ B hml hP s₁ hh0 (Stand.of_body B)
    exact ⟨t, o, a1, b1, b2, ⟨b3.1, b3.2⟩⟩
set_option maxHeartbeats 8000000 in
theorem am_sound {l : Launch} {D : va_G} {cl : List vw_C} {cA : Nat → ClassId} {ro : am_H} {sts : List (String × String × String)} {Ts nest : List Jvm.Cond} {ft : Nat → Nat → FieldType} {df : Nat → List Value} {G : Nat → am_M} {nM : Nat}
    (hg : ∀ w ∈ Ts, goodWord w = true) (hn : ∀ w ∈ nest, am_isN w = true) (hcl : am_okC cl Ts ft df) (hroW : ∀ e ∈ ro, am_we 0 e)
    (hM : ∀ m, m < nM → ∃ n, am_okM Ts (G m) n) (hR : ∀ m, m < nM → ∀ pc, am_okR cl sts Ts nest G nM m pc ((G m).2.2.2.2.1 pc)) :
    ∀ (d m : Nat) (as : List Value) (h : am_H) (K : am_K) (ad : Nat → Nat) (sz : Nat), m < nM → am_Ex G ro ft df d m as h K → am_wh h → am_wt h.length as → h.length ≤ 1000 → Met l (G m).1 (am_wd Ts (G m)) (am_rm G d m) (va_Pc (as.map (am_v ad)) (am_In D cl cA ro sts nest ad h sz)) (fun _ => am_Out D cl cA ad h sz K) (am_rm G d m).cells (am_rm G d m).slots (va_A (am_ws cA ad 0 h) sz) := by
  intro d
  induction d with
  | zero => intro m as h K ad sz hm hE; exact hE.elim
  | succ d ih =>
    intro m as h K ad sz hm hE hh hw hlt
    obtain ⟨hsp, hE⟩ := hE
    obtain ⟨nA, o3, o4, o5, o6, o7, o8⟩ := hM m hm
    refine am_ofW (cc := (G m).2.1) (maxL := (G m).2.2.1) (ret := (G m).2.2.2.1) o7 rfl ?_
    intro p e s mm args below meth c s₁ B hml hv
    obtain ⟨rfl, hsz, hP, hDD, hK, hro, hst, hne⟩ := hv
    have hx := B.exec
    have hb := B.bytes
    have hr := B.returns
    have hts0 := atoms_spec (ws := am_wd Ts (G m)) B.pre
    have hts : ∀ w ∈ Ts, w.before (as.map (am_v ad)).toArray s = true := fun w hw => hts0 w (List.mem_cons_of_mem _ hw)
    have hown : s.vm.findClass (G m).1.cls = some mm.cls := findClass_of_methodNamed B.named
    have hnm : meth.name = (G m).1.name := (name_of_methodNamed B.named B.method).1
    have hlocks := B.notSynchronized
    subst hsz
    have hD := hDD.self (sz := s.heap.size)
    have hA : ∀ q : Nat, s.heap.size ≤ q → va_A (am_ws cA ad 0 h) s.heap.size q := fun q hq => Or.inr hq
    generalize hAe : va_A (am_ws cA ad 0 h) s.heap.size = A at hD hA hro hst ⊢
    have hro' : ∀ ad', am_ag h.length ad ad' → ∀ k e, am_nth ro k = some e → am_T e (ad' (1000 + k)) A s s.heap := fun ad' hag k e he => by
      rw [hag _ (Or.inr (Nat.le_add_right _ _))]
      exact hro k e he
    have hst' : ∀ ad', am_ag h.length ad ad' → ∀ k q, am_nth sts k = some q → va_Z q.1 q.2.1 q.2.2 (.ref (ad' (1000 + k))) A s s.heap := fun ad' hag k q hq => by
      rw [hag _ (Or.inr (Nat.le_add_right _ _))]
      exact hst k q hq
    have hE2 := hE (fun pc lv st h' bc' bs' => ∀ (ad' : Nat → Nat) (H : Heap) (locs : List Loc) (ls : Array Slot) (cells slots : Nat), am_ag h.length ad ad' → h.length ≤ h'.length → h'.length ≤ 1000 → am_wh h' → am_wl h'.length lv → am_wt h'.length st → va_P D cl (am_ws cA ad' 0 h') H → va_D A (am_ws cA ad' 0 h') → va_S A s.heap H locs → am_ls (G m).2.2.1 ad' ls lv → cells + bc' ≤ (am_rm G (d + 1) m).cells → slots + bs' ≤ (am_rm G (d + 1) m).slots → W p l e (am_rm G (d + 1) m) s mm (as.map (am_v ad)).toArray below meth c H locs cells slots (MQ below (fun _ => am_Out D cl cA ad h s.heap.size K) (as.map (am_v ad)).toArray s (am_rm G (d + 1) m).cells (am_rm G (d + 1) m).slots A) (F0 mm pc ls (st.map (am_v ad')))) ?_ ?_
    · have h9 := hE2 ad s.heap [] ((lg_sl (as.map (am_v ad)) ++ List.replicate ((G m).2.2.1 - (lg_sl (as.map (am_v ad))).length) Slot.unset).toArray) 0 0 am_ag_rf (Nat.le_refl _) hlt hh (fun i v hi => am_sp_w as hw i v (am_padN_nth _ _ _ _ hi)) (fun _ q => by cases q) hP hD va_S.rf ?_ (by rw [Nat.zero_add]; exact Nat.le_refl _) (by rw [Nat.zero_add]; exact Nat.le_refl _)
      · rw [lg_entry_eq]
        exact h9
      · have hle : (lg_sl (as.map (am_v ad))).length ≤ (G m).2.2.1 := by rw [am_sp_len]; exact Nat.le_of_ble_eq_true hsp
        have hl := lv_entry (as.map (am_v ad)) (n := (G m).2.2.1) hle
        refine ⟨am_padN_len _ _, hl.1, hl.2.1, fun i v hi => ?_⟩
        have h1 := hl.2.2 (0 + i, am_v ad v) (am_sp_args as 0 i v (am_padN_nth _ _ _ _ hi))
        rw [Nat.zero_add] at h1
        exact h1
    · intro pc lv lv' st h' bc' bs' hle hV ad' H locs ls cells slots g1 g2 g3 g4 g5 g6 g7 g8 g9 g10 g11 g12
      exact hV ad' H locs ls cells slots g1 g2 g3 g4 (am_wl_less hle g5) g6 g7 g8 g9 (am_ls_le hle g10) g11 g12
    · intro pc lv st h' bc' bs' hrow ad' H locs ls cells slots g1 g2 g3 g4 g5 g6 g7 g8 g9 g10 g11 g12
      have hok := hR m hm pc
      generalize (G m).2.2.2.2.1 pc = w at hrow hok
      obtain ⟨ins, nx, r1, r2⟩ := w
      rcases hok with hnop | ⟨len, hdg, hnx, hlen, hoS, hoH, hoI⟩
      · have hnop : ins = .nop := hnop
        subst hnop
        rcases hrow with ⟨_, q, -⟩ | ⟨_, q, -⟩ | ⟨_, _, q, -⟩ | q | ⟨_, _, q, -⟩ | ⟨_, _, _, _, -, q, -⟩ | q | q <;> exact q.elim
      have hnx : nx = pc + len := hnx
      subst hnx
      rcases hrow with ⟨st', q, hV⟩ | ⟨st', q, hV⟩ | ⟨lv', st', q, hV⟩ | q | ⟨st', h'', q, hV⟩ | ⟨st', h'', bc'', bs'', ql, q, hV⟩ | q | q
      · exact am_W_stk hx hb hown hts hdg hlen hoS q (hV ad' H locs ls cells slots g1 g2 g3 g4 g5 (am_k_stk g6 q) g7 g8 g9 g10 g11 g12)
      · exact am_W_ld hx hb hdg hlen hoS g10 q (hV ad' H locs ls cells slots g1 g2 g3 g4 g5 (am_k_ld g6 g5 q) g7 g8 g9 g10 g11 g12)
      · obtain ⟨k1, k2⟩ := am_k_sto g6 g5 q
        exact am_W_sto hx hb hdg hlen hoS g10 q (fun ls' hl' => hV ad' H locs ls' cells slots g1 g2 g3 g4 k2 k1 g7 g8 g9 hl' g11 g12)
      · exact am_W_br hx hb hdg hlen hoS (am_k_br g6 q) (fun q' st' hV => hV.2 ad' H locs ls cells slots g1 g2 g3 g4 g5 hV.1 g7 g8 g9 g10 g11 g12)
      · obtain ⟨k1, k2, k3⟩ := am_k_hp g6 g4 q
        exact am_W_hp hx hb hown hnm hts hne hcl hK (hro' ad' g1) (hst' ad' g1) hdg hlen hoH g7 g8 g9 q (fun H1 locs1 e1 e2 e3 => hV ad' H1 locs1 ls cells slots g1 (by rw [k3]; exact g2) (by rw [k3]; exact g3) k2 (by rw [k3]; exact g5) k1 e1 e2 e3 g10 g11 g12)
      · have hlt9 : h'.length < 1000 := Nat.le_of_ble_eq_true ql
        have hdf : ∀ i, ins = .new i → ∀ v ∈ df r1, v.isRef = true → v = .null := fun i hi => by
          subst hi
          obtain ⟨C, T, N, z1, -⟩ := hoH
          exact (hcl _ _ _ _ z1).2.2.2.2
        obtain ⟨k1, k2, k3⟩ := am_k_al hdf g6 g4 q
        refine am_W_al hx hb hown hts hcl hK hA hdg hlen hoH g7 g8 g9 hlt9 g6 g4 q g11 g12 (fun qa H1 cells' slots' e1 e2 e3 e4 e5 => hV (am_ad ad' h'.length qa) H1 locs ls cells' slots' (am_ag_tr g1 g2 (am_ad_ag hlt9)) (by omega) (by omega) k2 (by rw [k3]; exact am_wl_le g5 (by omega)) k1 e3 e4 e5 (am_ls_ag g10 g5 (am_ad_ag hlt9)) (by omega) (by omega))
      · refine am_W_in (d := d) (nM := nM) hx hb hml hown hts hg hn hne hK (hro' ad' g1) (hst' ad' g1) hA (fun m' as' h9 K9 ad9 sz9 z1 z2 z3 z4 z5 => ih m' as' h9 K9 ad9 sz9 z1 z2 z3 z4 z5) (Nat.le_refl _) (by show 40 * d + 40 ≤ 40 * (d + 1); omega) g10.2.1 hdg hlen hoI g7 g8 g9 g3 g6 g4 q g11 g12 (fun st' h'' bc'' bs'' ad'' H1 locs1 cells' slots' hV e1 e2 e3 e4 e5 e6 e7 e8 e9 e10 => hV ad'' H1 locs1 ls cells' slots' (am_ag_tr g1 g2 e3) (by omega) e5 e6 (am_wl_le g5 e4) e7 e8 e9 e10 (am_ls_ag g10 g5 e3) (by omega) (by omega))
      · exact am_W_rt hx hb hr hlocks hdg hlen q (fun v t hKv hwv ht hW => ⟨⟨v, h', ad', rfl, hKv, g1, g2, g3, g4, fun z hz => am_wv_le (hwv z hz) (Nat.zero_le _), by rw [ht]; exact g7, by rw [hAe]; exact g8⟩, by rw [hAe]; exact g9.F ht⟩) g9.2.2 (by omega) (by omega)
