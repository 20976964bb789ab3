/-! METHODS THAT THROW AND CATCH, over the abstract machine. -/
abbrev xm_K : Type := (Option Value ⊕ Nat) → am_H → Prop
abbrev xm_C : Type := Nat → List Value → am_H → xm_K → Prop
/-- a method; what its handlers answer, by the exceptions' numbers; its table of handlers -/
abbrev xm_M : Type := am_M × List (Nat × Int32) × List (Nat × Nat × Nat × Nat)
abbrev xm_S : Type := Option (Nat × (Nat → Int32))
def xm_nm : Nat → String
  | 0 => "java/lang/IndexOutOfBoundsException"
  | 1 => "java/lang/IllegalArgumentException"
  | 2 => "java/lang/UnsupportedOperationException"
  | 3 => "java/lang/IllegalStateException"
  | 4 => "java/util/NoSuchElementException"
  | _ => "java/lang/ArithmeticException"
def xm_find : List (Nat × Int32) → Nat → Option Int32
  | [], _ => none
  | (k, v) :: r, e => cond (Nat.beq k e) (some v) (xm_find r e)
def xm_or (f : Option Value → am_H → Prop) (g : Nat → am_H → Prop) : xm_K := fun o h => match o with
  | .inl r => f r h
  | .inr e => g e h
/-- what the caller does with a throw: its handler answers, or it goes on -/
def xm_thr (hd : List (Nat × Int32)) (K : xm_K) (e : Nat) (h : am_H) : Prop := match xm_find hd e with
  | some v => K (.inl (some (.int v))) h
  | none => hd = [] ∧ K (.inr e) h
/-- a call of a method that may throw ('monitorenter': by its name, 'monitorexit': a static one); a throw ('athrow': all of new .. athrow) -/
def xm_in (XG : Nat → xm_M) (CX : xm_C) (hd : List (Nat × Int32)) (K : xm_K) (ins : Instr) (r1 r2 : Nat) (st : List Value) (h : am_H) (bc bs : Nat) (P : List Value → am_H → Nat → Nat → Prop) : Prop := match ins with
  | .monitorenter => ∃ a fs as rest bc' bs', am_pop (XG r1).1.2.2.2.2.2.1 [] st = some (.ref a :: as, rest) ∧ am_nth h a = some (.inr (r2, fs)) ∧ Nat.ble (am_cs rest) 8 = true ∧ bc = bc' + (XG r1).1.2.2.2.2.2.2.1 ∧ bs = bs' + (XG r1).1.2.2.2.2.2.2.2 ∧ CX r1 (.ref a :: as) h (xm_or (fun r h' => P (r.toList ++ rest) h' bc' bs') (xm_thr hd K))
  | .monitorexit => ∃ as rest bc' bs', am_pop (XG r1).1.2.2.2.2.2.1 [] st = some (as, rest) ∧ Nat.ble (am_cs rest) 8 = true ∧ bc = bc' + (XG r1).1.2.2.2.2.2.2.1 ∧ bs = bs' + (XG r1).1.2.2.2.2.2.2.2 ∧ CX r1 as h (xm_or (fun r h' => P (r.toList ++ rest) h' bc' bs') (xm_thr hd K))
  | .athrow => ∃ bc' bs', bc = bc' + 1 ∧ bs = bs' + 6 ∧ st = [] ∧ K (.inr r1) h
  | _ => False
/-- the script: an array that is only read -/
def xm_sc (sc : xm_S) (ins : Instr) (st st' : List Value) : Prop := match ins with
  | .arraylength => ∃ L xs r, sc = some (L, xs) ∧ st = .ref 1500 :: r ∧ st' = .int (nI L) :: r
  | .iaload => ∃ L xs i r, sc = some (L, xs) ∧ st = .int i :: .ref 1500 :: r ∧ vp_in i L ∧ st' = .int (xs i.toNatClampNeg) :: r
  | _ => False
section XMS
variable (G : Nat → am_M) (ro : am_H) (ft : Nat → Nat → FieldType) (df : Nat → List Value) (XG : Nat → xm_M) (sc : xm_S)
def xm_row (C : am_C) (CX : xm_C) (hd : List (Nat × Int32)) (rt : Option FieldType) (K : xm_K) (P : am_P) (w : am_R) (pc : Nat) (lv : am_L) (st : List Value) (h : am_H) (bc bs : Nat) : Prop :=
  am_row G ro ft df C rt (fun v h => K (.inl v) h) P w pc lv st h bc bs ∨
  xm_in XG CX hd K w.1 w.2.2.1 w.2.2.2 st h bc bs (fun st' h' bc' bs' => P w.2.1 lv st' h' bc' bs') ∨
  (∃ st', xm_sc sc w.1 st st' ∧ P w.2.1 lv st' h bc bs)
def xm_cl (C : am_C) (CX : xm_C) (m : Nat) (K : xm_K) (P : am_P) : Prop := ∀ pc lv st h bc bs, xm_row G ro ft df XG sc C CX (XG m).2.1 (XG m).1.2.2.2.1 K P ((XG m).1.2.2.2.2.1 pc) pc lv st h bc bs → P pc lv st h bc bs
/-- a method's run, with at most d methods open at once -/
def xm_Ex : Nat → xm_C
  | 0 => fun _ _ _ _ => False
  | d + 1 => fun m args h K => Nat.ble (am_sp args).length (XG m).1.2.2.1 = true ∧ 5 ≤ d ∧ ∀ P : am_P, am_mono P → xm_cl G ro ft df XG none (am_Ex G ro ft df d) (xm_Ex d) m K P → P 0 (am_padN (XG m).1.2.2.1 (am_sp args)) [] h (XG m).1.2.2.2.2.2.2.1 (XG m).1.2.2.2.2.2.2.2
end XMS
/-! What is the same throughout, for methods that throw. -/
/-- the words that stay true, though the kit's lists of good ones don't have them -/
def xm_isX : Jvm.Cond → Bool
  | .castable .. => true
  | .declares _ => true
  | _ => false
theorem xm_nw_same {w : Jvm.Cond} (hw : xm_isX w = true) {u U : State} (h : u.vm = U.vm) (hZ : va_Nw w u) : va_Nw w U := by
  cases w <;> first | (exact va_Nw.same rfl h hZ) | (cases hw)
theorem xm_nw_warm {w : Jvm.Cond} (hw : xm_isX w = true) {s U : State} (hW : s.WarmedH U.vm) (hZ : va_Nw w s) : va_Nw w U := by
  cases w <;> first | (exact va_Nw.warmC hW hZ) | (exact va_Nw.warmD hW hZ) | (cases hw)
theorem xm_nw_use {w : Jvm.Cond} (hw : xm_isX w = true) {a : Array Value} {U : State} (hZ : va_Nw w U) : w.before a U = true := by
  cases w <;> first | (exact va_Nw.use rfl hZ) | (cases hw)
/-- what a throw needs of the state: words, classes that are not cast to others, Throwable's two statics, the texts -/
def xm_Z (xn : List Jvm.Cond) (xnc : List (String × String)) (strs : List (String × Nat × String)) (A : Nat → Prop) (U : State) (H : Heap) : Prop :=
  (∀ w ∈ xn, va_Nw w U) ∧ (∀ q ∈ xnc, va_Nc q.1 q.2 U) ∧ vx_Zq Bundle.tN "UNASSIGNED_STACK" Bundle.steD A U H ∧ vx_Zq Bundle.tN "SUPPRESSED_SENTINEL" Bundle.listD A U H ∧ ∀ q ∈ strs, ∃ a, vk_R q.1 q.2.1 q.2.2 a U
theorem xm_Z.move {xn : List Jvm.Cond} {xnc : List (String × String)} {strs : List (String × Nat × String)} {A B : Nat → Prop} {s U : State} {H H1 : Heap} (hx : ∀ w ∈ xn, xm_isX w = true) (hW : s.WarmedH U.vm) (hq : ∀ a : Nat, a < H.size → ¬ A a → H1[a]? = H[a]?) (hAB : ∀ q, B q → A q) (h : xm_Z xn xnc strs A s H) : xm_Z xn xnc strs B U H1 := by
  obtain ⟨h1, h2, h3, h4, h5⟩ := h
  refine ⟨fun w hw => xm_nw_warm (hx w hw) hW (h1 w hw), fun q hq => va_Nc.moved hW.alike (h2 q hq), vx_Zq.moved hW.alike (vx_Zq.narrow (vx_Zq.kept h3 hq) hAB), vx_Zq.moved hW.alike (vx_Zq.narrow (vx_Zq.kept h4 hq) hAB), fun q hq => ?_⟩
  obtain ⟨a, ha⟩ := h5 q hq
  exact ⟨a, vk_R.warm hW ha⟩
def xm_In (D : va_G) (cl : List vw_C) (cA : Nat → ClassId) (ro : am_H) (sts : List (String × String × String)) (nest xn : List Jvm.Cond) (xnc : List (String × String)) (strs : List (String × Nat × String)) (ad : Nat → Nat) (h : am_H) (sz : Nat) (U : State) : Prop :=
  am_In D cl cA ro sts nest ad h sz U ∧ xm_Z xn xnc strs (va_A (am_ws cA ad 0 h) sz) U U.heap
/-- a throw's end -/
def xm_XC (D : va_G) (cl : List vw_C) (cA : Nat → ClassId) (ad : Nat → Nat) (h : am_H) (sz : Nat) (K : xm_K) (E : String) (st t : State) : Prop :=
  (∃ (e : Nat) (h' : am_H) (ad' : Nat → Nat), E = xm_nm e ∧ K (.inr e) h' ∧ am_ag h.length ad ad' ∧ h.length ≤ h'.length ∧ h'.length ≤ 1000 ∧ am_wh h' ∧ va_P D cl (am_ws cA ad' 0 h') t.heap ∧ va_D (va_A (am_ws cA ad 0 h) sz) (am_ws cA ad' 0 h')) ∧ va_F (va_A (am_ws cA ad 0 h) sz) st t
theorem xm_In_blind {D : va_G} {cl : List vw_C} {cA : Nat → ClassId} {ro : am_H} {sts : List (String × String × String)} {nest xn : List Jvm.Cond} {xnc : List (String × String)} {strs : List (String × Nat × String)} {ad : Nat → Nat} {h : am_H} {sz : Nat} {av : List Value} (hn : ∀ w ∈ nest, am_isN w = true) (hx : ∀ w ∈ xn, xm_isX w = true) : FrameBlind (va_Pc av (xm_In D cl cA ro sts nest xn xnc strs ad h sz)) := by
  rintro a U g mk ⟨q0, q1, q2⟩
  have h1 := am_In_blind (D := D) (cl := cl) (cA := cA) (ro := ro) (sts := sts) (nest := nest) (ad := ad) (h := h) (sz := sz) (av := av) hn a U g mk ⟨q0, q1⟩
  exact ⟨q0, h1.2, xm_Z.move (s := U) (U := U.calling g mk a) hx (State.WarmedH.refl U) (fun _ _ _ => rfl) (fun _ q => q) q2⟩
/-- the word of a method's code -/
def xm_w (M : xm_M) : Jvm.Cond := match M.2.2 with
  | [] => Jvm.Cond.code M.1.1 M.1.2.1 M.1.2.2.1 M.1.2.2.2.1
  | x :: r => Jvm.Cond.codeWith M.1.1 M.1.2.1 M.1.2.2.1 M.1.2.2.2.1 (x :: r)
def xm_wd (Ts : List Jvm.Cond) (M : xm_M) : List Jvm.Cond := xm_w M :: Ts
def xm_rm (XG : Nat → xm_M) (d m : Nat) : Room := { frames := d + 1, cells := (XG m).1.2.2.2.2.2.2.1, slots := (XG m).1.2.2.2.2.2.2.2, locals := 40 * d + 100 }
theorem xm_good {Ts : List Jvm.Cond} (hg : ∀ w ∈ Ts, goodWord w = true) {M : xm_M} (hM : xm_w M ∈ Ts) : GoodIn Ts (xm_wd Ts M) := by
  intro w hw
  rcases List.mem_cons.mp hw with h | h
  · rw [h]; exact ⟨hM, good_of_word (hg _ hM)⟩
  · exact ⟨h, good_of_word (hg _ h)⟩
/-- what the tables say of a method that may throw -/
def xm_okM (Ts : List Jvm.Cond) (M : xm_M) (n : Nat) : Prop := xm_w M ∈ Ts ∧ (M.1.1.cls ≠ "java/lang/invoke/MethodHandle" ∧ M.1.1.cls ≠ "java/lang/invoke/VarHandle") ∧ (parseMethodDescriptor M.1.1.desc).map (fun d => d.parameters.length) = some n ∧ M.1.2.2.1 ≤ 21 ∧ plainName M.1.1.cls = true ∧ Jvm.Cond.initialized M.1.1.cls ∈ Ts
def xm_pl : Instr → Bool
  | .monitorenter => false
  | .monitorexit => false
  | .athrow => false
  | .nop => false
  | _ => true
/-- a plain row, against the bytes -/
def xm_okN (cl : List vw_C) (sts : List (String × String × String)) (Ts nest : List Jvm.Cond) (G : Nat → am_M) (nM : Nat) (y : MethodName) (cc : ByteArray) (pc : Nat) (w : am_R) : Prop :=
  xm_pl w.1 = true ∧ ∃ len, decode cc pc = .ok (w.1, len) ∧ w.2.1 = pc + len ∧ am_len w.1 len ∧ am_okS y.cls Ts pc w.1 w.2.2.1 w.2.2.2 ∧ am_okH cl sts y Ts nest w.1 w.2.2.1 w.2.2.2 ∧ am_okI cl y Ts nest G nM w.1 w.2.2.1 w.2.2.2
/-- a throw, against the bytes -/
def xm_okT (Ts xn : List Jvm.Cond) (strs : List (String × Nat × String)) (hh : List (Nat × Nat × Nat × Nat)) (own : String) (cc : ByteArray) (pc r1 : Nat) : Prop :=
  ∃ (ik is ic ix : Nat) (text Y : String) (r : List String) (rx : ByteArray), hh = [] ∧ (decode cc pc = .ok (.new ik, 3) ∧ decode cc (pc + 3) = .ok (.dup, 1) ∧ decode cc (pc + 4) = .ok (.ldc is, 2) ∧ decode cc (pc + 6) = .ok (.invokespecial ic, 3) ∧ decode cc (pc + 9) = .ok (.athrow, 1)) ∧
    (decode rx 0 = .ok (.aload_n 0, 1) ∧ decode rx 1 = .ok (.aload_n 1, 1) ∧ decode rx 2 = .ok (.invokespecial ix, 3) ∧ decode rx 5 = .ok (.return_, 1)) ∧
    Bundle.fit (xm_nm r1) = true ∧ Bundle.fit Y = true ∧ (∀ n ∈ r, Bundle.fit n = true) ∧ r.length ≤ 1 ∧ Jvm.Cond.classLink own ik (xm_nm r1) ∈ Ts ∧ Jvm.Cond.initialized (xm_nm r1) ∈ Ts ∧ (∀ w ∈ xv_at own ic (xm_nm r1) ix rx Y r, w ∈ Ts ∨ w ∈ xn) ∧ (own, is, text) ∈ strs
/-- a handler, against the bytes -/
def xm_okC (Ts xn : List Jvm.Cond) (xnc : List (String × String)) (hh : List (Nat × Nat × Nat × Nat)) (rt : Option FieldType) (nL : Nat) (own : String) (cc : ByteArray) (pc : Nat) (q : Nat × Int32) : Prop :=
  rt = some .int ∧ ∃ (pre : List ExceptionTableEntry) (x : ExceptionTableEntry) (suf : List ExceptionTableEntry) (name : String), tableOf hh = pre ++ x :: suf ∧ (∀ z ∈ pre, z.catchType ≠ 0 ∧ ∃ nm : String, Jvm.Cond.classLink own z.catchType nm ∈ Ts ∧ (xm_nm q.1, nm) ∈ xnc) ∧ covers x pc = true ∧ x.catchType ≠ 0 ∧ Jvm.Cond.classLink own x.catchType name ∈ Ts ∧ Jvm.Cond.castable (xm_nm q.1) name ∈ xn ∧
    ∃ (k len : Nat) (i : Int), k < nL ∧ ((decode cc x.handlerPc = .ok (.astore k, 2) ∧ len = 2) ∨ (∃ k9 : Fin 4, (k9 : Nat) = k ∧ decode cc x.handlerPc = .ok (.astore_n k9, 1) ∧ len = 1)) ∧ decode cc (x.handlerPc + len) = .ok (.iconst i, 1) ∧ Int32.ofInt i = q.2 ∧ decode cc (x.handlerPc + len + 1) = .ok (.ireturn, 1)
/-- a call of a method that may throw, against the bytes -/
def xm_okI (cl : List vw_C) (Ts : List Jvm.Cond) (XG : Nat → xm_M) (nX : Nat) (y : MethodName) (cc : ByteArray) (pc : Nat) (w : am_R) : Prop := match w.1 with
  | .monitorenter => ∃ i, decode cc pc = .ok (.invokevirtual i, 3) ∧ w.2.1 = pc + 3 ∧ w.2.2.1 < nX ∧ (∃ n T N, (XG w.2.2.1).1.2.2.2.2.2.1 = n + 1 ∧ xm_okM Ts (XG w.2.2.1) n ∧ cl[w.2.2.2]? = some ((XG w.2.2.1).1.1.cls, T, N)) ∧ (XG w.2.2.1).2.2 = [] ∧ Jvm.Cond.methodLink y.cls i (XG w.2.2.1).1.1 ∈ Ts ∧ Jvm.Cond.instanceMethod (XG w.2.2.1).1.1 ∈ Ts ∧ Jvm.Cond.selects (XG w.2.2.1).1.1.cls (XG w.2.2.1).1.1 (XG w.2.2.1).1.1 ∈ Ts
  | .monitorexit => ∃ i, decode cc pc = .ok (.invokestatic i, 3) ∧ w.2.1 = pc + 3 ∧ w.2.2.1 < nX ∧ xm_okM Ts (XG w.2.2.1) (XG w.2.2.1).1.2.2.2.2.2.1 ∧ Jvm.Cond.static (XG w.2.2.1).1.1 ∈ Ts ∧ Jvm.Cond.methodLink y.cls i (XG w.2.2.1).1.1 ∈ Ts
  | _ => False
def xm_okR (cl : List vw_C) (sts : List (String × String × String)) (Ts nest xn : List Jvm.Cond) (xnc : List (String × String)) (strs : List (String × Nat × String)) (G : Nat → am_M) (nM : Nat) (XG : Nat → xm_M) (nX : Nat) (M : xm_M) (pc : Nat) (w : am_R) : Prop :=
  w.1 = .nop ∨ xm_okN cl sts Ts nest G nM M.1.1 M.1.2.1 pc w ∨ (w.1 = .athrow ∧ xm_okT Ts xn strs M.2.2 M.1.1.cls M.1.2.1 pc w.2.2.1) ∨ (xm_okI cl Ts XG nX M.1.1 M.1.2.1 pc w ∧ ∀ q ∈ M.2.1, xm_okC Ts xn xnc M.2.2 M.1.2.2.2.1 M.1.2.2.1 M.1.1.cls M.1.2.1 pc q)
/-- the world at a place of a method's run -/
def xm_Wd (R : Room) (s : State) (D : va_G) (cl : List vw_C) (cA : Nat → ClassId) (A : Nat → Prop) (ad : Nat → Nat) (n0 : Nat) (h' : am_H) (ad' : Nat → Nat) (H : Heap) (locs : List Loc) (cells slots bc bs : Nat) : Prop :=
  am_ag n0 ad ad' ∧ n0 ≤ h'.length ∧ h'.length ≤ 1000 ∧ am_wh h' ∧ va_P D cl (am_ws cA ad' 0 h') H ∧ va_D A (am_ws cA ad' 0 h') ∧ va_S A s.heap H locs ∧ cells + bc ≤ R.cells ∧ slots + bs ≤ R.slots
def xm_PW (p : Program) (l : Launch) (e : Env) (R : Room) (s : State) (m : MethodId) (args : Array Value) (below : List Frame) (meth : Method) (c : Code) (Q : State → Prop) (nL : Nat) (D : va_G) (cl : List vw_C) (cA : Nat → ClassId) (A : Nat → Prop) (ad : Nat → Nat) (n0 : Nat) : am_P := fun pc lv st h' bc bs =>
  ∀ (ad' : Nat → Nat) (H : Heap) (locs : List Loc) (ls : Array Slot) (cells slots : Nat), xm_Wd R s D cl cA A ad n0 h' ad' H locs cells slots bc bs → am_wl h'.length lv → am_wt h'.length st → am_ls nL ad' ls lv → W p l e R s m args below meth c H locs cells slots Q (F0 m pc ls (st.map (am_v ad')))
section XMR
variable {p : Program} {l : Launch} {e : Env} {R : Room} {s : State} {m : MethodId} {args : Array Value} {below : List Frame} {meth : Method} {c : Code} {Q : State → Prop} {H : Heap} {locs : List Loc} {cells slots : Nat}
variable {cc : ByteArray} {pc nL d nM nX n0 bc bs : Nat} {ls : Array Slot} {y : MethodName} {Ts nest xn : List Jvm.Cond} {xnc : List (String × String)} {strs : List (String × Nat × String)} {st st' : List Value} {ad : Nat → Nat} {h : am_H} {D : va_G} {cl : List vw_C} {cA : Nat → ClassId} {A : Nat → Prop} {ro : am_H} {sts : List (String × String × String)} {ft : Nat → Nat → FieldType} {df : Nat → List Value} {G : Nat → am_M} {XG : Nat → xm_M}
/-- behind a call that returned or threw -/
theorem xm_behind {mc ms : Nat} {st0 rest : List Value} {K' : xm_K} (hr : vx_Run p l e R s m args below meth c H locs cells slots mc ms (F0 m pc ls st0) rest (am_Out D cl cA ad h H.size (fun v h => K' (.inl v) h)) (xm_XC D cl cA ad h H.size K') (va_A (am_ws cA ad 0 h) H.size)) (hS : va_S A s.heap H locs) (hA : ∀ q, va_A (am_ws cA ad 0 h) H.size q → A q)
    (kk : ∀ (r : Option Value) (h' : am_H) (ad' : Nat → Nat) (H1 : Heap) (locs1 : List Loc), K' (.inl r) h' → am_ag h.length ad ad' → h.length ≤ h'.length → h'.length ≤ 1000 → am_wh h' → am_wt h'.length r.toList → va_P D cl (am_ws cA ad' 0 h') H1 → va_D A (am_ws cA ad' 0 h') → va_S A s.heap H1 locs1 →
      W p l e R s m args below meth c H1 locs1 (cells + mc) (slots + ms) Q (F0 m (pc + 3) ls ((r.map (am_v ad')).toList ++ rest)))
    (kx : ∀ (e' : Nat) (h' : am_H) (ad' : Nat → Nat) (H1 : Heap) (locs1 : List Loc) (q : Addr) (ce : Cell), K' (.inr e') h' → am_ag h.length ad ad' → h.length ≤ h'.length → h'.length ≤ 1000 → am_wh h' → va_P D cl (am_ws cA ad' 0 h') H1 → va_D A (am_ws cA ad' 0 h') → va_S A s.heap H1 locs1 → H1[q]? = some ce → ce.vm = .none → s.vm.findClass (xm_nm e') = some ce.cls →
      vx_W p l e R s m args below meth c H1 locs1 (cells + mc) (slots + ms) Q (F0 m pc ls rest) q) : W p l e R s m args below meth c H locs cells slots Q (F0 m pc ls st0) := by
  intro T hT X
  have wS : ∀ {t T' st₀ : State} {L : List Loc}, st₀.heap = H → T'.heap = t.heap → (∀ z ∈ L, va_A (am_ws cA ad 0 h) H.size z.base) → va_F (va_A (am_ws cA ad 0 h) H.size) st₀ t → va_S A s.heap T'.heap (locs ++ L) := by
    intro t T' st₀ L h0 e1 hL hF
    obtain ⟨hz, hk⟩ := hF
    rw [h0] at hz hk
    exact ⟨Nat.le_trans hS.1 (by rw [e1]; exact hz), fun q h1 h2 => by rw [e1, hk q (Nat.lt_of_lt_of_le h1 hS.1) (fun z => h2 (hA q z))]; exact hS.2.1 q h1 h2, fun q hq => by
      rcases List.mem_append.mp hq with h | h
      · exact hS.2.2 q h
      · exact hA _ (hL q h)⟩
  rcases hr T hT X with ⟨v, st₀, t, T', L, h0, X', hL, e1, e2, ⟨⟨r, h', ad', hv, g1, g2, g3, g4, g5, g6, g7, g8⟩, hF⟩, st⟩ | ⟨q, st₀, t, T', L, E, ce, h0, X', hL, e1, e2, ⟨⟨e', h', ad', hE, g1, g2, g3, g4, g5, g7, g8⟩, hF⟩, hce, hcv, hcl, st⟩
  · have hv2 : v = r.map (am_v ad') := by injection hv
    subst hv2
    obtain ⟨t2, a1, b1⟩ := kk r h' ad' T'.heap (locs ++ L) g1 g2 g3 g4 g5 g6 (by rw [e1]; exact g7) (g8.weaken (fun _ q _ hq => hA q.1 hq)) (wS h0 e1 hL hF) T' rfl X'
    exact ⟨t2, st t2 a1, b1⟩
  · obtain ⟨t2, a1, b1⟩ := kx e' h' ad' T'.heap (locs ++ L) q ce g1 g2 g3 g4 g5 (by rw [e1]; exact g7) (g8.weaken (fun _ q _ hq => hA q.1 hq)) (wS h0 e1 hL hF) (by rw [e1]; exact hce) hcv (by rw [← hE]; exact hcl) T' rfl X'
    exact ⟨t2, st.trans a1, b1⟩
set_option maxHeartbeats 4000000 in
/-- a row of a method that may throw and catch: what the abstract machine says, the JVM does -/
theorem xm_row_W {CX : xm_C} {hd : List (Nat × Int32)} {hh : List (Nat × Nat × Nat × Nat)} {rt : Option FieldType} {K : xm_K} {sc : xm_S} {w : am_R} {lv : am_L} {h' : am_H} {n0 : Nat} (hx : p.tables.exec = Jvm.exec) (hb : c.code = cc) (hml : c.maxLocals = nL) (hown : s.vm.findClass y.cls = some m.cls) (hnm : meth.name = y.name) (hts : ∀ w ∈ Ts, w.before args s = true) (hg : ∀ w ∈ Ts, goodWord w = true) (hn : ∀ w ∈ nest, am_isN w = true) (hxn : ∀ w ∈ xn, xm_isX w = true) (hne : ∀ w ∈ nest, va_Nw w s) (hcl : am_okC cl Ts ft df) (hK : va_K D cl (am_tys cA) s)
    (hA : ∀ q, s.heap.size ≤ q → A q) (hro : ∀ ad', am_ag n0 ad ad' → ∀ k e, am_nth ro k = some e → am_T e (ad' (1000 + k)) A s s.heap) (hst : ∀ ad', am_ag n0 ad ad' → ∀ k q, am_nth sts k = some q → va_Z q.1 q.2.1 q.2.2 (.ref (ad' (1000 + k))) A s s.heap) (hZ : xm_Z xn xnc strs A s s.heap)
    (hC : ∀ (m' : Nat) (as : List Value) (h : am_H) (K : am_K) (ad : Nat → Nat) (sz : Nat), m' < nM → am_Ex G ro ft df d m' as h K → am_wh h → am_wt h.length as → h.length ≤ 1000 → Met l (G m').1 (am_wd Ts (G m')) (am_rm G d m') (va_Pc (as.map (am_v ad)) (am_In D cl cA ro sts nest ad h sz)) (fun _ => am_Out D cl cA ad h sz K) (am_rm G d m').cells (am_rm G d m').slots (va_A (am_ws cA ad 0 h) sz))
    (hX : ∀ (m' : Nat) (as : List Value) (h : am_H) (K : xm_K) (ad : Nat → Nat) (sz : Nat), m' < nX → CX m' as h K → am_wh h → am_wt h.length as → h.length ≤ 1000 → vx_Met l (XG m').1.1 (xm_wd Ts (XG m')) (xm_rm XG d m') (va_Pc (as.map (am_v ad)) (xm_In D cl cA ro sts nest xn xnc strs ad h sz)) (fun _ => am_Out D cl cA ad h sz (fun v h => K (.inl v) h)) (xm_XC D cl cA ad h sz K) (xm_rm XG d m').cells (xm_rm XG d m').slots (va_A (am_ws cA ad 0 h) sz))
    (hRf : d + 2 ≤ R.frames) (hRl : 40 * d + 140 ≤ R.locals) (htab : hd = [] ∨ c.exceptionTable.toList = tableOf hh)
    (hscr : ∀ L xs, sc = some (L, xs) → ∃ b, ad 1500 = b ∧ va_X b L xs s s.heap ∧ b < s.heap.size ∧ ¬ A b)
    (hret : ∀ (pc : Nat) (ins : Instr) (len : Nat) (st : List Value) (h' : am_H) (ad' : Nat → Nat) (H : Heap) (locs : List Loc) (ls : Array Slot) (cells slots bc bs : Nat), decode cc pc = .ok (ins, len) → am_len ins len → xm_Wd R s D cl cA A ad n0 h' ad' H locs cells slots bc bs → ls.size = nL → am_wt h'.length st → am_rt rt ins st (fun v => K (.inl v) h') → W p l e R s m args below meth c H locs cells slots Q (F0 m pc ls (st.map (am_v ad'))))
    (hthr : ∀ (pc r1 : Nat) (h' : am_H) (ad' : Nat → Nat) (H : Heap) (locs : List Loc) (ls : Array Slot) (cells slots bc bs : Nat), xm_okT Ts xn strs hh y.cls cc pc r1 → K (.inr r1) h' → xm_Wd R s D cl cA A ad n0 h' ad' H locs cells slots (bc + 1) (bs + 6) → ls.size = nL → W p l e R s m args below meth c H locs cells slots Q (F0 m pc ls []))
    (hout : ∀ (pc e' : Nat) (rest : List Value) (h' : am_H) (ad' : Nat → Nat) (H : Heap) (locs : List Loc) (ls : Array Slot) (cells slots bc bs : Nat) (q : Addr) (ce : Cell), hd = [] → K (.inr e') h' → xm_Wd R s D cl cA A ad n0 h' ad' H locs cells slots bc bs → H[q]? = some ce → ce.vm = .none → s.vm.findClass (xm_nm e') = some ce.cls → vx_W p l e R s m args below meth c H locs cells slots Q (F0 m pc ls rest) q)
    (hok : w.1 = .nop ∨ xm_okN cl sts Ts nest G nM y cc pc w ∨ (w.1 = .athrow ∧ xm_okT Ts xn strs hh y.cls cc pc w.2.2.1) ∨ (xm_okI cl Ts XG nX y cc pc w ∧ ∀ q ∈ hd, xm_okC Ts xn xnc hh rt nL y.cls cc pc q))
    (hrow : xm_row G ro ft df XG sc (am_Ex G ro ft df d) CX hd rt K (xm_PW p l e R s m args below meth c Q nL D cl cA A ad n0) w pc lv st h' bc bs) : xm_PW p l e R s m args below meth c Q nL D cl cA A ad n0 pc lv st h' bc bs := by
  intro ad' H locs ls cells slots hW g5 g6 g10
  obtain ⟨g1, g2, g3, g4, g7, g8, g9, g11, g12⟩ := id hW
  obtain ⟨ins, nx, r1, r2⟩ := w
  rcases hok with hnop | ⟨hpl, len, hdg, hnx, hlen, hoS, hoH, hoI⟩ | ⟨hat, hT⟩ | ⟨hI, hCt⟩
  · have hnop : ins = .nop := hnop
    subst hnop
    rcases hrow with (⟨_, q, -⟩ | ⟨_, q, -⟩ | ⟨_, _, q, -⟩ | q | ⟨_, _, q, -⟩ | ⟨_, _, _, _, -, q, -⟩ | q | q) | q | ⟨_, q, -⟩ <;> exact q.elim
  · have hnx : nx = pc + len := hnx
    subst hnx
    rcases hrow with (⟨st', q, hV⟩ | ⟨st', q, hV⟩ | ⟨lv', st', q, hV⟩ | q | ⟨st', h'', q, hV⟩ | ⟨st', h'', bc'', bs'', ql, q, hV⟩ | q | q) | q | ⟨st', q, hV⟩
    · exact am_W_stk hx hb hown hts hdg hlen hoS q (hV ad' H locs ls cells slots hW g5 (am_k_stk g6 q) g10)
    · exact am_W_ld hx hb hdg hlen hoS g10 q (hV ad' H locs ls cells slots hW g5 (am_k_ld g6 g5 q) g10)
    · obtain ⟨k1, k2⟩ := am_k_sto g6 g5 q
      exact am_W_sto hx hb hdg hlen hoS g10 q (fun ls' hl' => hV ad' H locs ls' cells slots hW k2 k1 hl')
    · exact am_W_br hx hb hdg hlen hoS (am_k_br g6 q) (fun q' st' hV => hV.2 ad' H locs ls cells slots hW g5 hV.1 g10)
    · obtain ⟨k1, k2, k3⟩ := am_k_hp g6 g4 q
      exact am_W_hp hx hb hown hnm hts hne hcl hK (hro ad' g1) (hst ad' g1) hdg hlen hoH g7 g8 g9 q (fun H1 locs1 e1 e2 e3 => hV ad' H1 locs1 ls cells slots ⟨g1, by rw [k3]; exact g2, by rw [k3]; exact g3, k2, e1, e2, e3, g11, g12⟩ (by rw [k3]; exact g5) k1 g10)
    · have hlt9 : h'.length < 1000 := Nat.le_of_ble_eq_true ql
      have hdf : ∀ i, ins = .new i → ∀ v ∈ df r1, v.isRef = true → v = .null := fun i hi => by
        subst hi
        obtain ⟨C, T, N, z1, -⟩ := hoH
        exact (hcl _ _ _ _ z1).2.2.2.2
      obtain ⟨k1, k2, k3⟩ := am_k_al hdf g6 g4 q
      refine am_W_al hx hb hown hts hcl hK hA hdg hlen hoH g7 g8 g9 hlt9 g6 g4 q g11 g12 (fun qa H1 cells' slots' e1 e2 e3 e4 e5 => hV (am_ad ad' h'.length qa) H1 locs ls cells' slots' ⟨am_ag_tr g1 g2 (am_ad_ag hlt9), by omega, by omega, k2, e3, e4, e5, by omega, by omega⟩ (by rw [k3]; exact am_wl_le g5 (by omega)) k1 (am_ls_ag g10 g5 (am_ad_ag hlt9)))
    · refine am_W_in (d := d) (nM := nM) hx hb hml hown hts hg hn hne hK (hro ad' g1) (hst ad' g1) hA hC (by omega) (by omega) g10.2.1 hdg hlen hoI g7 g8 g9 g3 g6 g4 q g11 g12 (fun st' h'' bc'' bs'' ad'' H1 locs1 cells' slots' hV e1 e2 e3 e4 e5 e6 e7 e8 e9 e10 => hV ad'' H1 locs1 ls cells' slots' ⟨am_ag_tr g1 g2 e3, by omega, e5, e6, e8, e9, e10, by omega, by omega⟩ (am_wl_le g5 e4) e7 (am_ls_ag g10 g5 e3))
    · exact hret pc ins len st h' ad' H locs ls cells slots bc bs hdg hlen hW g10.2.1 g6 q
    · cases ins <;> first | (exact q.elim) | (cases hpl)
    · cases ins
      case arraylength =>
        obtain rfl : len = 1 := hlen
        obtain ⟨L, xs, r, hs, rfl, rfl⟩ := q
        obtain ⟨b, hb9, hX9, hbl, hbA⟩ := hscr L xs hs
        have e15 : am_v ad' (.ref 1500) = .ref b := by rw [← hb9]; exact congrArg Value.ref (g1 1500 (Or.inr (by omega)))
        have h9 := hV ad' H locs ls cells slots hW g5 (am_wt_k trivial (am_wt_c g6)) g10
        rw [List.map_cons, e15]
        exact va_slen hx hb hX9 hbl hbA g9 hdg h9
      case iaload =>
        obtain rfl : len = 1 := hlen
        obtain ⟨L, xs, i, r, hs, rfl, hi, rfl⟩ := q
        obtain ⟨b, hb9, hX9, hbl, hbA⟩ := hscr L xs hs
        have e15 : am_v ad' (.ref 1500) = .ref b := by rw [← hb9]; exact congrArg Value.ref (g1 1500 (Or.inr (by omega)))
        have h9 := hV ad' H locs ls cells slots hW g5 (am_wt_k trivial (am_wt_c (am_wt_c g6))) g10
        rw [List.map_cons, List.map_cons, e15]
        exact va_sld hx hb hX9 hbl hbA g9 hi hdg h9
      all_goals exact q.elim
  · have hat : ins = .athrow := hat
    subst hat
    rcases hrow with (⟨_, q, -⟩ | ⟨_, q, -⟩ | ⟨_, _, q, -⟩ | q | ⟨_, _, q, -⟩ | ⟨_, _, _, _, -, q, -⟩ | q | q) | q | ⟨_, q, -⟩
    · exact q.elim
    · exact q.elim
    · exact q.elim
    · exact q.elim
    · exact q.elim
    · exact q.elim
    · exact q.elim
    · exact q.elim
    · obtain ⟨bc', bs', rfl, rfl, rfl, hk⟩ := q
      exact hthr pc r1 h' ad' H locs ls cells slots bc' bs' hT hk hW g10.2.1
    · exact q.elim
  · have hAA := am_A_in g8 hA g9
    have go : ∀ {as rest : List Value} {bc' bs' mc ms : Nat} {n : Nat}, nx = pc + 3 → am_pop n [] st = some (as, rest) → bc = bc' + mc → bs = bs' + ms →
        vx_Run p l e R s m args below meth c H locs cells slots mc ms (F0 m pc ls (st.map (am_v ad'))) (rest.map (am_v ad')) (am_Out D cl cA ad' h' H.size (fun v h => xm_or (fun r h'' => xm_PW p l e R s m args below meth c Q nL D cl cA A ad n0 nx lv (r.toList ++ rest) h'' bc' bs') (xm_thr hd K) (.inl v) h)) (xm_XC D cl cA ad' h' H.size (xm_or (fun r h'' => xm_PW p l e R s m args below meth c Q nL D cl cA A ad n0 nx lv (r.toList ++ rest) h'' bc' bs') (xm_thr hd K))) (va_A (am_ws cA ad' 0 h') H.size) → W p l e R s m args below meth c H locs cells slots Q (F0 m pc ls (st.map (am_v ad'))) := by
      intro as rest bc' bs' mc ms n h3 hpop hbc hbs hr
      subst h3
      obtain ⟨w1, w2⟩ := am_pop_w n [] st as rest hpop (fun _ q => by cases q) g6
      refine xm_behind hr g9 hAA (fun r h'' ad'' H1 locs1 k1 k2 k3 k4 k5 k6 k7 k8 k9 => ?_) (fun e' h'' ad'' H1 locs1 q ce k1 k2 k3 k4 k5 k7 k8 k9 kc kv kl => ?_)
      · have h9 := k1 ad'' H1 locs1 ls (cells + mc) (slots + ms) ⟨am_ag_tr g1 g2 k2, by omega, k4, k5, k7, k8, k9, by omega, by omega⟩ (am_wl_le g5 k3) (fun v hv => (List.mem_append.mp hv).elim (k6 v) (fun q => am_wv_le (w2 v q) k3)) (am_ls_ag g10 g5 k2)
        rw [List.map_append, am_t_ag w2 k2] at h9
        cases r <;> exact h9
      · have hWd : xm_Wd R s D cl cA A ad n0 h'' ad'' H1 locs1 (cells + mc) (slots + ms) bc' bs' := ⟨am_ag_tr g1 g2 k2, by omega, k4, k5, k7, k8, k9, by omega, by omega⟩
        have k1 : xm_thr hd K e' h'' := k1
        unfold xm_thr at k1
        cases hf : xm_find hd e' with
        | none =>
          rw [hf] at k1
          exact hout pc e' _ h'' ad'' H1 locs1 ls _ _ bc' bs' q ce k1.1 k1.2 hWd kc kv kl
        | some v =>
          rw [hf] at k1
          have hmem : ∀ (hd : List (Nat × Int32)), xm_find hd e' = some v → (e', v) ∈ hd := by
            intro hd
            induction hd with
            | nil => intro q9; cases q9
            | cons z r ih =>
              obtain ⟨k0, v0⟩ := z
              intro q9
              rw [xm_find] at q9
              cases hbq : Nat.beq k0 e' with
              | true =>
                rw [hbq, cond_true] at q9
                rw [← Nat.eq_of_beq_eq_true hbq, Option.some.inj q9]
                exact List.mem_cons_self
              | false =>
                rw [hbq, cond_false] at q9
                exact List.mem_cons_of_mem _ (ih q9)
          obtain ⟨hrt, pre, x, suf, name, hsp, hpre, hcov, hct, hlk, hca, kk, len, i, hkL, has, hic, hiv, hir⟩ := hCt _ (hmem hd hf)
          have htab9 : c.exceptionTable.toList = tableOf hh := htab.resolve_left (fun q9 => by rw [q9] at hf; cases hf)
          refine vx_catch (name := name) (E := xm_nm e') (ce := ce) hown pre x suf (by rw [htab9]; exact hsp) (fun z hz => ?_) hcov hct (hts _ hlk) (xm_nw_use (hxn _ hca) (hZ.1 _ hca)) kc kv kl ?_
          · obtain ⟨h0, nm, h1, h2⟩ := hpre z hz
            exact Or.inr ⟨h0, nm, hts _ h1, hZ.2.1 _ h2⟩
          have fin : ∀ ls' : Array Slot, ls'.size = nL → W p l e R s m args below meth c H1 locs1 (cells + mc) (slots + ms) Q (F0 m (x.handlerPc + len) ls' []) := fun ls' hls' => by
            refine lv_iconst (v := v) hx hb hic hiv ?_
            exact hret _ _ _ [.int v] h'' ad'' H1 locs1 ls' _ _ bc' bs' hir rfl hWd hls' (am_wt_k trivial (fun _ q => by cases q)) ⟨v, .int, rfl, hrt, rfl, k1⟩
          rcases has with ⟨has, rfl⟩ | ⟨k9, rfl, has, rfl⟩
          · exact lv_astore hx hb has (am_ls_has g10) hkL rfl (fun ls' hl' => fin ls' hl'.1)
          · exact lv_astore_n hx hb has rfl (am_ls_has g10) hkL rfl (fun ls' hl' => fin ls' hl'.1)
    have hin : ∀ U : State, U.heap = H → s.WarmedH U.vm → xm_In D cl cA ro sts nest xn xnc strs ad' h' H.size U := fun U hU hW9 => ⟨am_In_call hn hne hK (hro ad' g1) (hst ad' g1) g7 g8 hA g9 hU hW9, xm_Z.move hxn hW9 (fun a h1 h2 => by rw [hU]; exact g9.2.1 a h1 h2) hAA hZ⟩
    rcases hrow with (⟨_, q, -⟩ | ⟨_, q, -⟩ | ⟨_, _, q, -⟩ | q | ⟨_, _, q, -⟩ | ⟨_, _, _, _, -, q, -⟩ | q | q) | q | ⟨_, q, -⟩
    iterate 8 (cases ins <;> first | (exact q.elim) | (exact hI.elim))
    · cases ins
      case monitorenter =>
        obtain ⟨i, hdg, hnx, o1, ⟨n, T, N, o2, ⟨o3, o4, o5, o6, o7, o8⟩, o9⟩, p0, p1, p2, p3⟩ := hI
        obtain ⟨a, fs, as, rest, bc', bs', hpop, hrc, hcs, hbc, hbs, hcall⟩ := q
        obtain ⟨w1, w2⟩ := am_pop_w _ [] st _ rest hpop (fun _ q => by cases q) g6
        obtain ⟨e1, e2⟩ := am_pop_eq _ [] st _ rest hpop
        have e2 : as.length + 1 = (XG r1).1.2.2.2.2.2.1 := by simpa using e2
        have o2 : (XG r1).1.2.2.2.2.2.1 = n + 1 := o2
        have hl : as.length = n := by omega
        have hstk : st.map (am_v ad') = (as.map (am_v ad')).reverse ++ .ref (ad' a) :: rest.map (am_v ad') := by
          have : st = as.reverse ++ (.ref a :: rest) := by simpa using e1
          rw [this]; simp [am_v]
        have hRl' : 8 + ((XG r1).1.2.2.1 + 11) + (40 * d + 100) ≤ R.locals := by
          have : (XG r1).1.2.2.1 ≤ 21 := o6
          omega
        have hbc : bc = bc' + (XG r1).1.2.2.2.2.2.2.1 := hbc
        have hbs : bs = bs' + (XG r1).1.2.2.2.2.2.2.2 := hbs
        have hcR : cells + (XG r1).1.2.2.2.2.2.2.1 ≤ R.cells ∧ slots + (XG r1).1.2.2.2.2.2.2.2 ≤ R.slots := ⟨by omega, by omega⟩
        have hw0 : xm_wd Ts (XG r1) = Jvm.Cond.code (XG r1).1.1 (XG r1).1.2.1 (XG r1).1.2.2.1 (XG r1).1.2.2.2.1 :: Ts := by
          unfold xm_wd xm_w
          rw [show (XG r1).2.2 = [] from p0]
        refine go hnx hpop hbc hbs (vx_runV (As := as.map (am_v ad')) (rest := rest.map (am_v ad')) ⟨hx, hb, hml, hown, hts⟩ (hX r1 (.ref a :: as) h' _ ad' H.size o1 hcall g4 w1 g3) (cwV (C := (XG r1).1.1.cls) (ret := (XG r1).1.2.2.2.1) n hts (fun w hw9 => ?_) hw0 rfl rfl ⟨rfl, o4.1, o4.2, o5⟩ ⟨hRf, hRl'⟩) ⟨xm_In_blind hn hxn, va_recv hK g7 o9 (am_ws_at hrc), fun U hU hW => ⟨rfl, hin U hU hW⟩⟩ rfl (by rw [List.length_map]; exact hl) g10.2.1 hstk (lv_room (by rw [am_cs_sum]; exact Nat.le_of_ble_eq_true hcs)) hdg hcR)
        rcases List.mem_append.mp hw9 with q | q
        · have : w ∈ Ts := by
            simp only [List.mem_cons, List.not_mem_nil, or_false] at q
            rcases q with q | q | q | q <;> rw [q] <;> assumption
          exact ⟨this, good_of_word (hg _ this)⟩
        · exact xm_good hg o3 w q
      case monitorexit =>
        obtain ⟨i, hdg, hnx, o1, ⟨o3, o4, o5, o6, o7, o8⟩, p1, p2⟩ := hI
        obtain ⟨as, rest, bc', bs', hpop, hcs, hbc, hbs, hcall⟩ := q
        obtain ⟨w1, w2⟩ := am_pop_w _ [] st _ rest hpop (fun _ q => by cases q) g6
        obtain ⟨e1, e2⟩ := am_pop_eq _ [] st _ rest hpop
        have hl : as.length = (XG r1).1.2.2.2.2.2.1 := by simpa using e2
        have hstk : st.map (am_v ad') = (as.map (am_v ad')).reverse ++ rest.map (am_v ad') := by
          have : st = as.reverse ++ rest := by simpa using e1
          rw [this]; simp
        have hRl' : 8 + ((XG r1).1.2.2.1 + 11) + (40 * d + 100) ≤ R.locals := by
          have : (XG r1).1.2.2.1 ≤ 21 := o6
          omega
        have hbc : bc = bc' + (XG r1).1.2.2.2.2.2.2.1 := hbc
        have hbs : bs = bs' + (XG r1).1.2.2.2.2.2.2.2 := hbs
        have hcR : cells + (XG r1).1.2.2.2.2.2.2.1 ≤ R.cells ∧ slots + (XG r1).1.2.2.2.2.2.2.2 ≤ R.slots := ⟨by omega, by omega⟩
        have hmem : ∀ w, w ∈ va_wsS y.cls i (XG r1).1.1 (xm_wd Ts (XG r1)) → w ∈ Ts ∧ ((w.onTables && w.keeps) = true ∨ ∃ ty, w = .arrayClass ty) := fun w hw9 => by
          rcases List.mem_append.mp hw9 with q | q
          · have : w ∈ Ts := by
              simp only [List.mem_cons, List.not_mem_nil, or_false] at q
              rcases q with q | q | q <;> rw [q] <;> assumption
            exact ⟨this, good_of_word (hg _ this)⟩
          · exact xm_good hg o3 w q
        cases hhx : (XG r1).2.2 with
        | nil =>
          have hw0 : xm_wd Ts (XG r1) = Jvm.Cond.code (XG r1).1.1 (XG r1).1.2.1 (XG r1).1.2.2.1 (XG r1).1.2.2.2.1 :: Ts := by
            unfold xm_wd xm_w
            rw [hhx]
          exact go hnx hpop hbc hbs (vx_runS (As := as.map (am_v ad')) (rest := rest.map (am_v ad')) ⟨hx, hb, hml, hown, hts⟩ (hX r1 as h' _ ad' H.size o1 hcall g4 w1 g3) (va_cwS (ret := (XG r1).1.2.2.2.1) _ hts hmem hw0 rfl rfl ⟨o4.1, o4.2, o5⟩ ⟨hRf, hRl'⟩) ⟨xm_In_blind hn hxn, fun U hU hW => ⟨rfl, hin U hU hW⟩⟩ rfl (by rw [List.length_map]; exact hl) g10.2.1 hstk (lv_room (by rw [am_cs_sum]; exact Nat.le_of_ble_eq_true hcs)) hdg hcR)
        | cons z r =>
          have hw0 : xm_wd Ts (XG r1) = Jvm.Cond.codeWith (XG r1).1.1 (XG r1).1.2.1 (XG r1).1.2.2.1 (XG r1).1.2.2.2.1 (z :: r) :: Ts := by
            unfold xm_wd xm_w
            rw [hhx]
          exact go hnx hpop hbc hbs (vx_runSX (hh := z :: r) (As := as.map (am_v ad')) (rest := rest.map (am_v ad')) ⟨hx, hb, hml, hown, hts⟩ (hX r1 as h' _ ad' H.size o1 hcall g4 w1 g3) (vx_cwSW (ret := (XG r1).1.2.2.2.1) _ hts hmem hw0 rfl rfl ⟨o4.1, o4.2, o5⟩ ⟨hRf, hRl'⟩) ⟨xm_In_blind hn hxn, fun U hU hW => ⟨rfl, hin U hU hW⟩⟩ rfl (by rw [List.length_map]; exact hl) g10.2.1 hstk (lv_room (by rw [am_cs_sum]; exact Nat.le_of_ble_eq_true hcs)) hdg hcR)
      all_goals first | (exact q.elim) | (exact hI.elim)
    · cases ins <;> first | (exact q.elim) | (exact hI.elim)
end XMR
