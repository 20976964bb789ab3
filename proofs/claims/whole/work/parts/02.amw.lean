/-! WHAT THE ABSTRACT MACHINE SAYS, THE JVM DOES: rows for the stack, the locals and the branches. -/
def am_v (ad : Nat → Nat) : Value → Value
  | .ref a => .ref (ad a)
  | v => v
theorem am_v_c1 {ad : Nat → Nat} {v : Value} (h : am_c1 v = true) : (am_v ad v).category = 1 := by
  cases v <;> first | rfl | cases h
theorem am_c1_cat {ad : Nat → Nat} {v : Value} : (am_v ad v).category = cond (am_c1 v) 1 2 := by
  cases v <;> rfl
theorem am_cs_sum {ad : Nat → Nat} : ∀ st : List Value, ((st.map (am_v ad)).map fun v => v.category).sum = am_cs st
  | [] => rfl
  | v :: r => by
    rw [List.map_cons, List.map_cons, List.sum_cons, am_cs_sum r, am_c1_cat]
    rfl
def am_len (ins : Instr) (len : Nat) : Prop := match ins with
  | .bipush _ => len = 2
  | .ldc _ => len = 2
  | .iload _ => len = 2
  | .aload _ => len = 2
  | .lload _ => len = 2
  | .fload _ => len = 2
  | .dload _ => len = 2
  | .istore _ => len = 2
  | .astore _ => len = 2
  | .lstore _ => len = 2
  | .dstore _ => len = 2
  | .newarray _ => len = 2
  | .sipush _ => len = 3
  | .ldc_w _ => len = 3
  | .iinc _ _ => len = 3
  | .goto _ => len = 3
  | .ifCond _ _ => len = 3
  | .if_icmp _ _ => len = 3
  | .getfield _ => len = 3
  | .putfield _ => len = 3
  | .getstatic _ => len = 3
  | .invokevirtual _ => len = 3
  | .invokestatic _ => len = 3
  | .invokespecial _ => len = 3
  | .new _ => len = 3
  | .tableswitch _ _ _ _ => True
  | _ => len = 1
/-- what the table's numbers are, against the instruction: the stack, the locals, the branches -/
def am_okS (own : String) (Ts : List Jvm.Cond) (pc : Nat) (ins : Instr) (r1 r2 : Nat) : Prop := match ins with
  | .iconst n => Int32.ofInt n = Int32.ofNat r1
  | .bipush n => (Int8.ofInt n).toInt32 = Int32.ofNat r1
  | .sipush n => (Int16.ofInt n).toInt32 = Int32.ofNat r1
  | .ldc i => (r2 = 0 → Jvm.Cond.constant own i (Int32.ofNat r1) ∈ Ts) ∧ (r2 = 1 → Jvm.Cond.constantFloat own i (UInt32.ofNat r1) ∈ Ts)
  | .ldc_w i => Jvm.Cond.constant own i (Int32.ofNat r1) ∈ Ts
  | .lconst n => Int64.ofNat (n : Nat) = Int64.ofNat r1
  | .iload i => i = r1
  | .aload i => i = r1
  | .lload i => i = r1
  | .fload i => i = r1
  | .dload i => i = r1
  | .iload_n k => (k : Nat) = r1
  | .aload_n k => (k : Nat) = r1
  | .lload_n k => (k : Nat) = r1
  | .fload_n k => (k : Nat) = r1
  | .istore i => i = r1
  | .astore i => i = r1
  | .lstore i => i = r1
  | .dstore i => i = r1
  | .istore_n k => (k : Nat) = r1
  | .astore_n k => (k : Nat) = r1
  | .lstore_n k => (k : Nat) = r1
  | .fstore_n k => (k : Nat) = r1
  | .iinc i n => i = r1 ∧ Int32.ofInt n = Int32.ofNat r2
  | .goto off => (pc : Int) + off = (r1 : Int)
  | .ifCond _ off => (pc : Int) + off = (r1 : Int)
  | .if_icmp _ off => (pc : Int) + off = (r1 : Int)
  | _ => True
/-- the locals that the list tells -/
def am_ls (nL : Nat) (ad : Nat → Nat) (ls : Array Slot) (lv : am_L) : Prop := lv.length = nL ∧ ls.size = nL ∧ lv_wf ls ∧ ∀ i v, am_nth lv i = some (some v) → ls[i]? = some (.val (am_v ad v))
def am_lst (ad : Nat → Nat) (i : Nat) : am_L → List (Nat × Value)
  | [] => []
  | none :: r => am_lst ad (i + 1) r
  | some v :: r => (i, am_v ad v) :: am_lst ad (i + 1) r
theorem am_lst_mem {ad : Nat → Nat} : ∀ (lv : am_L) (i : Nat) (q : Nat × Value), q ∈ am_lst ad i lv ↔ ∃ k v, q = (i + k, am_v ad v) ∧ am_nth lv k = some (some v)
  | [], i, q => by simp [am_lst, am_nth]
  | none :: r, i, q => by
    rw [am_lst, am_lst_mem r (i + 1) q]
    constructor
    · rintro ⟨k, v, h1, h2⟩
      exact ⟨k + 1, v, by rw [h1]; congr 1; omega, h2⟩
    · rintro ⟨k, v, h1, h2⟩
      cases k with
      | zero => simp [am_nth] at h2
      | succ k => exact ⟨k, v, by rw [h1]; congr 1; omega, h2⟩
  | some w :: r, i, q => by
    rw [am_lst, List.mem_cons, am_lst_mem r (i + 1) q]
    constructor
    · rintro (h | ⟨k, v, h1, h2⟩)
      · exact ⟨0, w, h, rfl⟩
      · exact ⟨k + 1, v, by rw [h1]; congr 1; omega, h2⟩
    · rintro ⟨k, v, h1, h2⟩
      cases k with
      | zero =>
        simp only [am_nth, Option.some.injEq] at h2
        subst h2
        exact Or.inl h1
      | succ k => exact Or.inr ⟨k, v, by rw [h1]; congr 1; omega, h2⟩
theorem am_ls_has {nL : Nat} {ad : Nat → Nat} {ls : Array Slot} {lv : am_L} (h : am_ls nL ad ls lv) : lv_has ls nL (am_lst ad 0 lv) := by
  refine ⟨h.2.1, h.2.2.1, fun q hq => ?_⟩
  obtain ⟨k, v, rfl, h2⟩ := (am_lst_mem lv 0 q).mp hq
  rw [Nat.zero_add]
  exact h.2.2.2 k v h2
theorem am_ls_1 {nL : Nat} {ad : Nat → Nat} {ls ls' : Array Slot} {lv lv' : am_L} {i : Nat} {v : Value} (h : am_ls nL ad ls lv) (hs : am_s1 lv i v lv') (h' : lv_has ls' nL ((i, am_v ad v) :: (am_lst ad 0 lv).filter (fun q => !(q.1 == i) && !(q.1 + 1 == i && q.2.category == 2)))) : am_ls nL ad ls' lv' := by
  obtain ⟨h1, h2, rfl⟩ := hs
  refine ⟨by rw [am_upd_len]; exact h.1, h'.1, h'.2.1, fun k w hk => ?_⟩
  by_cases hki : i = k
  · subst hki
    rw [am_nth_eq, am_upd_eq, List.getElem?_set_self (Nat.le_of_ble_eq_true h1)] at hk
    simp only [Option.some.injEq] at hk
    subst hk
    exact h'.2.2 _ List.mem_cons_self
  · rw [am_nth_ne hki] at hk
    refine h'.2.2 (k, am_v ad w) (List.mem_cons_of_mem _ (List.mem_filter.mpr ⟨(am_lst_mem lv 0 _).mpr ⟨k, w, by rw [Nat.zero_add], hk⟩, ?_⟩))
    have e1 : (k == i) = false := by simpa using Ne.symm hki
    simp only [e1, Bool.not_false, Bool.true_and, Bool.not_eq_true', Bool.and_eq_false_iff]
    by_cases hk1 : k + 1 = i
    · right
      subst hk1
      simp only [am_nc, hk] at h2
      rw [am_v_c1 h2]
      rfl
    · left
      simpa using hk1
theorem am_ls_2 {nL : Nat} {ad : Nat → Nat} {ls ls' : Array Slot} {lv lv' : am_L} {i : Nat} {v : Value} (h : am_ls nL ad ls lv) (hs : am_s2 lv i v lv') (h' : lv_has ls' nL ((i, am_v ad v) :: (am_lst ad 0 lv).filter (fun q => !(q.1 == i) && (!(q.1 == i + 1) && !(q.1 + 1 == i && q.2.category == 2))))) : am_ls nL ad ls' lv' := by
  obtain ⟨h1, h2, rfl⟩ := hs
  have hlen : i + 1 < lv.length := Nat.le_of_ble_eq_true h1
  refine ⟨by rw [am_upd_len, am_upd_len]; exact h.1, h'.1, h'.2.1, fun k w hk => ?_⟩
  by_cases hk1 : i + 1 = k
  · subst hk1
    rw [am_nth_eq, am_upd_eq, List.getElem?_set_self (by rw [am_upd_len]; exact hlen)] at hk
    cases hk
  rw [am_nth_ne hk1] at hk
  by_cases hki : i = k
  · subst hki
    rw [am_nth_eq, am_upd_eq, List.getElem?_set_self (by omega)] at hk
    simp only [Option.some.injEq] at hk
    subst hk
    exact h'.2.2 _ List.mem_cons_self
  · rw [am_nth_ne hki] at hk
    refine h'.2.2 (k, am_v ad w) (List.mem_cons_of_mem _ (List.mem_filter.mpr ⟨(am_lst_mem lv 0 _).mpr ⟨k, w, by rw [Nat.zero_add], hk⟩, ?_⟩))
    have e1 : (k == i) = false := by simpa using Ne.symm hki
    have e2 : (k == i + 1) = false := by simpa using Ne.symm hk1
    simp only [e1, e2, Bool.not_false, Bool.true_and, Bool.not_eq_true', Bool.and_eq_false_iff]
    by_cases hk2 : k + 1 = i
    · right
      subst hk2
      simp only [am_nc, hk] at h2
      rw [am_v_c1 h2]
      rfl
    · left
      simpa using hk2
theorem am_ls_le {nL : Nat} {ad : Nat → Nat} {ls : Array Slot} {lv lv' : am_L} (hle : am_le lv lv') (h : am_ls nL ad ls lv') : am_ls nL ad ls lv :=
  ⟨hle.1.trans h.1, h.2.1, h.2.2.1, fun i v hi => h.2.2.2 i v (hle.2 i v hi)⟩
section AMW
variable {p : Program} {l : Launch} {e : Env} {R : Room} {s : State} {m : MethodId} {args : Array Value} {below : List Frame} {meth : Method} {c : Code} {H : Heap} {locs : List Loc} {cells slots : Nat} {Q : State → Prop}
variable {cc : ByteArray} {pc len r1 r2 nL : Nat} {ls : Array Slot} {own : String} {Ts : List Jvm.Cond} {ins : Instr} {st st' : List Value} {lv lv' : am_L} {ad : Nat → Nat}
set_option maxHeartbeats 4000000 in
theorem am_W_stk (hx : p.tables.exec = Jvm.exec) (hb : c.code = cc) (hown : s.vm.findClass own = some m.cls) (hts : ∀ w ∈ Ts, w.before args s = true) (hdg : decode cc pc = .ok (ins, len)) (hlen : am_len ins len) (hok : am_okS own Ts pc ins r1 r2) (hs : am_stk ins r1 r2 st st')
    (k : W p l e R s m args below meth c H locs cells slots Q (F0 m (pc + len) ls (st'.map (am_v ad)))) : W p l e R s m args below meth c H locs cells slots Q (F0 m pc ls (st.map (am_v ad))) := by
  cases ins
  case iconst n => obtain rfl : len = 1 := hlen; cases hs; exact lv_iconst hx hb hdg hok k
  case bipush n => obtain rfl : len = 2 := hlen; cases hs; exact lv_bipush hx hb hdg hok k
  case sipush n => obtain rfl : len = 3 := hlen; cases hs; exact lv_sipush hx hb hdg hok k
  case ldc i =>
    obtain rfl : len = 2 := hlen
    rcases hs with ⟨h0, rfl⟩ | ⟨h0, rfl⟩
    · exact lv_ldc hx hb hown (hts _ (hok.1 h0)) hdg k
    · exact lv_ldcf hx hb hown (hts _ (hok.2 h0)) hdg k
  case ldc_w i => obtain rfl : len = 3 := hlen; cases hs; exact lv_ldcw hx hb hown (hts _ hok) hdg k
  case lconst n => obtain rfl : len = 1 := hlen; cases hs; exact lv_lconst hx hb hdg hok k
  case fconst f =>
    obtain rfl : len = 1 := hlen
    rcases hs with ⟨rfl, rfl⟩ | ⟨rfl, rfl⟩ | ⟨rfl, rfl⟩
    · exact lv_fconst0 hx hb hdg k
    · exact lv_fconst1 hx hb hdg k
    · exact lv_fconst2 hx hb hdg k
  case dconst f => obtain rfl : len = 1 := hlen; obtain ⟨rfl, rfl⟩ := hs; exact lv_dconst0 hx hb hdg k
  case iadd => obtain rfl : len = 1 := hlen; obtain ⟨x, y, r, rfl, rfl⟩ := hs; exact lv_iadd hx hb hdg k
  case isub => obtain rfl : len = 1 := hlen; obtain ⟨x, y, r, rfl, rfl⟩ := hs; exact lv_isub hx hb hdg k
  case imul => obtain rfl : len = 1 := hlen; obtain ⟨x, y, r, rfl, rfl⟩ := hs; exact lv_imul hx hb hdg k
  case idiv => obtain rfl : len = 1 := hlen; obtain ⟨x, y, r, rfl, h0, rfl⟩ := hs; exact lv_idiv hx hb hdg h0 k
  case irem => obtain rfl : len = 1 := hlen; obtain ⟨x, y, r, rfl, h0, rfl⟩ := hs; exact lv_irem hx hb hdg h0 k
  case ineg => obtain rfl : len = 1 := hlen; obtain ⟨x, r, rfl, rfl⟩ := hs; exact lv_ineg hx hb hdg k
  case iand => obtain rfl : len = 1 := hlen; obtain ⟨x, y, r, rfl, rfl⟩ := hs; exact lv_iand hx hb hdg k
  case ior => obtain rfl : len = 1 := hlen; obtain ⟨x, y, r, rfl, rfl⟩ := hs; exact lv_ior hx hb hdg k
  case ixor => obtain rfl : len = 1 := hlen; obtain ⟨x, y, r, rfl, rfl⟩ := hs; exact lv_ixor hx hb hdg k
  case ishl => obtain rfl : len = 1 := hlen; obtain ⟨x, y, r, rfl, rfl⟩ := hs; exact lv_ishl hx hb hdg k
  case iushr => obtain rfl : len = 1 := hlen; obtain ⟨x, y, r, rfl, rfl⟩ := hs; exact lv_iushr hx hb hdg rfl k
  case i2l => obtain rfl : len = 1 := hlen; obtain ⟨x, r, rfl, rfl⟩ := hs; exact lv_i2l hx hb hdg rfl k
  case i2f => obtain rfl : len = 1 := hlen; obtain ⟨x, r, rfl, rfl⟩ := hs; exact lv_i2f hx hb hdg k
  case i2d => obtain rfl : len = 1 := hlen; obtain ⟨x, r, rfl, rfl⟩ := hs; exact lv_i2d hx hb hdg k
  case i2c => obtain rfl : len = 1 := hlen; obtain ⟨x, r, rfl, rfl⟩ := hs; exact lv_i2c hx hb hdg rfl k
  case ladd => obtain rfl : len = 1 := hlen; obtain ⟨x, y, r, rfl, rfl⟩ := hs; exact lv_ladd hx hb hdg k
  case lmul => obtain rfl : len = 1 := hlen; obtain ⟨x, y, r, rfl, rfl⟩ := hs; exact lv_lmul hx hb hdg k
  case lcmp => obtain rfl : len = 1 := hlen; obtain ⟨x, y, r, rfl, rfl⟩ := hs; exact W.lcmp hx hb hdg k
  case fadd => obtain rfl : len = 1 := hlen; obtain ⟨x, y, r, rfl, h0, rfl⟩ := hs; exact lv_fadd hx hb hdg h0 k
  case fsub => obtain rfl : len = 1 := hlen; obtain ⟨x, y, r, rfl, h0, rfl⟩ := hs; exact lv_fsub hx hb hdg h0 k
  case fmul => obtain rfl : len = 1 := hlen; obtain ⟨x, y, r, rfl, h0, rfl⟩ := hs; exact lv_fmul hx hb hdg h0 k
  case fdiv => obtain rfl : len = 1 := hlen; obtain ⟨x, y, r, rfl, h0, rfl⟩ := hs; exact lv_fdiv hx hb hdg h0 k
  case fneg => obtain rfl : len = 1 := hlen; obtain ⟨x, r, rfl, rfl⟩ := hs; exact lv_fneg hx hb hdg k
  case f2i => obtain rfl : len = 1 := hlen; obtain ⟨x, r, rfl, rfl⟩ := hs; exact lv_f2i hx hb hdg k
  case f2d => obtain rfl : len = 1 := hlen; obtain ⟨x, r, rfl, h0, rfl⟩ := hs; exact lv_f2d hx hb hdg h0 k
  case ddiv => obtain rfl : len = 1 := hlen; obtain ⟨x, y, r, rfl, h0, rfl⟩ := hs; exact lv_ddiv hx hb hdg h0 k
  case fcmp op => obtain rfl : len = 1 := hlen; obtain ⟨x, y, r, rfl, rfl⟩ := hs; exact lv_fcmp hx hb hdg k
  case dcmp op => obtain rfl : len = 1 := hlen; obtain ⟨x, y, r, rfl, rfl⟩ := hs; exact lv_dcmp hx hb hdg k
  case dup => obtain rfl : len = 1 := hlen; obtain ⟨v, r, rfl, h0, rfl⟩ := hs; exact lv_dup hx hb hdg (am_v_c1 h0) k
  case dup2 => obtain rfl : len = 1 := hlen; obtain ⟨v, w, r, rfl, h0, h1, rfl⟩ := hs; exact lv_dup2_11 hx hb hdg (am_v_c1 h0) (am_v_c1 h1) k
  case pop => obtain rfl : len = 1 := hlen; obtain ⟨v, r, rfl, h0, rfl⟩ := hs; exact lv_pop hx hb hdg (am_v_c1 h0) k
  all_goals exact hs.elim
set_option maxHeartbeats 4000000 in
theorem am_W_ld (hx : p.tables.exec = Jvm.exec) (hb : c.code = cc) (hdg : decode cc pc = .ok (ins, len)) (hlen : am_len ins len) (hok : am_okS own Ts pc ins r1 r2) (hl : am_ls nL ad ls lv) (hs : am_ld ins r1 lv st st')
    (k : W p l e R s m args below meth c H locs cells slots Q (F0 m (pc + len) ls (st'.map (am_v ad)))) : W p l e R s m args below meth c H locs cells slots Q (F0 m pc ls (st.map (am_v ad))) := by
  cases ins
  case iload i => obtain rfl : len = 2 := hlen; obtain ⟨x, h0, rfl⟩ := hs; obtain rfl : i = r1 := hok; exact lv_iload hx hb hdg (hl.2.2.2 _ _ h0) k
  case iload_n i => obtain rfl : len = 1 := hlen; obtain ⟨x, h0, rfl⟩ := hs; exact lv_iload_n hx hb hdg hok (hl.2.2.2 _ _ h0) k
  case aload i => obtain rfl : len = 2 := hlen; obtain ⟨x, h0, rfl⟩ := hs; obtain rfl : i = r1 := hok; exact lv_aload hx hb hdg (hl.2.2.2 _ _ h0) k
  case aload_n i => obtain rfl : len = 1 := hlen; obtain ⟨x, h0, rfl⟩ := hs; exact lv_aload_n hx hb hdg hok (hl.2.2.2 _ _ h0) k
  case lload i => obtain rfl : len = 2 := hlen; obtain ⟨x, h0, rfl⟩ := hs; obtain rfl : i = r1 := hok; exact lv_lload hx hb hdg (hl.2.2.2 _ _ h0) k
  case lload_n i => obtain rfl : len = 1 := hlen; obtain ⟨x, h0, rfl⟩ := hs; exact lv_lload_n hx hb hdg hok (hl.2.2.2 _ _ h0) k
  case fload i => obtain rfl : len = 2 := hlen; obtain ⟨x, h0, rfl⟩ := hs; obtain rfl : i = r1 := hok; exact lv_fload hx hb hdg (hl.2.2.2 _ _ h0) k
  case fload_n i => obtain rfl : len = 1 := hlen; obtain ⟨x, h0, rfl⟩ := hs; exact lv_fload_n hx hb hdg hok (hl.2.2.2 _ _ h0) k
  case dload i => obtain rfl : len = 2 := hlen; obtain ⟨x, h0, rfl⟩ := hs; obtain rfl : i = r1 := hok; exact lv_dload hx hb hdg (hl.2.2.2 _ _ h0) k
  all_goals exact hs.elim
theorem am_s1_lt {i : Nat} {v : Value} (hl : am_ls nL ad ls lv) (h : am_s1 lv i v lv') : i < nL := hl.1 ▸ Nat.le_of_ble_eq_true h.1
theorem am_s2_lt {i : Nat} {v : Value} (hl : am_ls nL ad ls lv) (h : am_s2 lv i v lv') : i + 1 < nL := hl.1 ▸ Nat.le_of_ble_eq_true h.1
set_option maxHeartbeats 4000000 in
theorem am_W_sto (hx : p.tables.exec = Jvm.exec) (hb : c.code = cc) (hdg : decode cc pc = .ok (ins, len)) (hlen : am_len ins len) (hok : am_okS own Ts pc ins r1 r2) (hl : am_ls nL ad ls lv) (hs : am_sto ins r1 r2 lv lv' st st')
    (k : ∀ ls' : Array Slot, am_ls nL ad ls' lv' → W p l e R s m args below meth c H locs cells slots Q (F0 m (pc + len) ls' (st'.map (am_v ad)))) : W p l e R s m args below meth c H locs cells slots Q (F0 m pc ls (st.map (am_v ad))) := by
  cases ins
  case istore i => obtain rfl : len = 2 := hlen; obtain ⟨x, rfl, h0⟩ := hs; obtain rfl : i = r1 := hok; exact lv_istore hx hb hdg (am_ls_has hl) (am_s1_lt hl h0) rfl (fun ls' h' => k ls' (am_ls_1 hl h0 h'))
  case istore_n i => obtain rfl : len = 1 := hlen; obtain ⟨x, rfl, h0⟩ := hs; exact lv_istore_n hx hb hdg hok (am_ls_has hl) (am_s1_lt hl h0) rfl (fun ls' h' => k ls' (am_ls_1 hl h0 h'))
  case astore i => obtain rfl : len = 2 := hlen; obtain ⟨x, rfl, h0⟩ := hs; obtain rfl : i = r1 := hok; exact lv_astore hx hb hdg (am_ls_has hl) (am_s1_lt hl h0) rfl (fun ls' h' => k ls' (am_ls_1 hl h0 h'))
  case astore_n i => obtain rfl : len = 1 := hlen; obtain ⟨x, rfl, h0⟩ := hs; exact lv_astore_n hx hb hdg hok (am_ls_has hl) (am_s1_lt hl h0) rfl (fun ls' h' => k ls' (am_ls_1 hl h0 h'))
  case fstore_n i => obtain rfl : len = 1 := hlen; obtain ⟨x, rfl, h0⟩ := hs; exact lv_fstore_n hx hb hdg hok (am_ls_has hl) (am_s1_lt hl h0) rfl (fun ls' h' => k ls' (am_ls_1 hl h0 h'))
  case lstore i => obtain rfl : len = 2 := hlen; obtain ⟨x, rfl, h0⟩ := hs; obtain rfl : i = r1 := hok; exact lv_lstore hx hb hdg (am_ls_has hl) (am_s2_lt hl h0) rfl (fun ls' h' => k ls' (am_ls_2 hl h0 h'))
  case lstore_n i => obtain rfl : len = 1 := hlen; obtain ⟨x, rfl, h0⟩ := hs; exact lv_lstore_n hx hb hdg hok (am_ls_has hl) (am_s2_lt hl h0) rfl (fun ls' h' => k ls' (am_ls_2 hl h0 h'))
  case dstore i => obtain rfl : len = 2 := hlen; obtain ⟨x, rfl, h0⟩ := hs; obtain rfl : i = r1 := hok; exact lv_dstore hx hb hdg (am_ls_has hl) (am_s2_lt hl h0) rfl (fun ls' h' => k ls' (am_ls_2 hl h0 h'))
  case iinc i n =>
    obtain rfl : len = 3 := hlen
    obtain ⟨x, hn, h0, rfl⟩ := hs
    obtain ⟨rfl, h2⟩ : i = r1 ∧ _ := hok
    have hm : (i, Value.int x) ∈ am_lst ad 0 lv := (am_lst_mem lv 0 _).mpr ⟨i, .int x, by rw [Nat.zero_add]; rfl, hn⟩
    obtain ⟨j, hj⟩ := List.getElem?_of_mem hm
    exact lv_iinc hx hb hdg (am_ls_has hl) hj (by rw [h2]) (am_s1_lt hl h0) rfl (fun ls' h' => k ls' (am_ls_1 hl h0 h'))
  all_goals exact hs.elim
set_option maxHeartbeats 4000000 in
theorem am_W_br {P : Nat → List Value → Prop} (hx : p.tables.exec = Jvm.exec) (hb : c.code = cc) (hdg : decode cc pc = .ok (ins, len)) (hlen : am_len ins len) (hok : am_okS own Ts pc ins r1 r2) (hs : am_br ins pc (pc + len) r1 st P)
    (k : ∀ (q : Nat) (st' : List Value), P q st' → W p l e R s m args below meth c H locs cells slots Q (F0 m q ls (st'.map (am_v ad)))) : W p l e R s m args below meth c H locs cells slots Q (F0 m pc ls (st.map (am_v ad))) := by
  cases ins
  case goto off => obtain rfl : len = 3 := hlen; exact lv_goto hx hb hdg hok (k _ _ hs)
  case ifCond cnd off =>
    obtain rfl : len = 3 := hlen
    obtain ⟨x, r, rfl, h1, h2⟩ := hs
    cases cnd
    · exact lv_if_eq hx hb hdg hok (fun h => k _ _ (h1 h)) (fun h => k _ _ (h2 h))
    · exact lv_if_ne hx hb hdg hok (fun h => k _ _ (h1 h)) (fun h => k _ _ (h2 (fun q => q h)))
    · exact lv_if_lt hx hb hdg hok (fun h => k _ _ (h1 h)) (fun h => k _ _ (h2 h))
    · exact lv_if_ge hx hb hdg hok (fun h => k _ _ (h1 h)) (fun h => k _ _ (h2 h))
    · exact lv_if_gt hx hb hdg hok (fun h => k _ _ (h1 h)) (fun h => k _ _ (h2 h))
    · exact lv_if_le hx hb hdg hok (fun h => k _ _ (h1 h)) (fun h => k _ _ (h2 h))
  case if_icmp cnd off =>
    obtain rfl : len = 3 := hlen
    obtain ⟨x, y, r, rfl, h1, h2⟩ := hs
    cases cnd
    · exact lv_icmp_eq hx hb hdg hok (fun h => k _ _ (h1 h)) (fun h => k _ _ (h2 h))
    · exact lv_icmp_ne hx hb hdg hok (fun h => k _ _ (h1 h)) (fun h => k _ _ (h2 (fun q => q h)))
    · exact lv_icmp_lt hx hb hdg hok (fun h => k _ _ (h1 h)) (fun h => k _ _ (h2 h))
    · exact lv_icmp_ge hx hb hdg hok (fun h => k _ _ (h1 h)) (fun h => k _ _ (h2 h))
    · exact lv_icmp_gt hx hb hdg hok (fun h => k _ _ (h1 h)) (fun h => k _ _ (h2 h))
    · exact lv_icmp_le hx hb hdg hok (fun h => k _ _ (h1 h)) (fun h => k _ _ (h2 h))
  case tableswitch d lo hi offs =>
    obtain ⟨x, r, rfl, ⟨tgt, h1, h2, h3⟩ | ⟨off, tgt, h1, h2, h3, h4, h5⟩⟩ := hs
    · exact lv_tableOut hx hb hdg h1 h2 (k _ _ h3)
    · exact lv_tableIn hx hb hdg h1 h2 h3 h4 (k _ _ h5)
  all_goals exact hs.elim
end AMW
