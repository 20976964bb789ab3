/-! AN ABSTRACT MACHINE. A method's run over a heap that is a list (an object's label is its place there), without the JVM's own state. am_Ex says that a method comes to an end where K holds. Part 02 shows that what am_Ex says the JVM does. -/
abbrev am_E : Type := (Nat × vp_A) ⊕ (Nat × List Value)
abbrev am_H : Type := List am_E
abbrev am_L : Type := List (Option Value)
abbrev am_R : Type := Instr × Nat × Nat × Nat
abbrev am_M : Type := MethodName × ByteArray × Nat × Option FieldType × (Nat → am_R) × Nat × Nat × Nat
abbrev am_K : Type := Option Value → am_H → Prop
abbrev am_C : Type := Nat → List Value → am_H → am_K → Prop
abbrev am_P : Type := Nat → am_L → List Value → am_H → Nat → Nat → Prop
def am_nth {α : Type} : List α → Nat → Option α
  | [], _ => none
  | a :: _, 0 => some a
  | _ :: l, n + 1 => am_nth l n
def am_upd {α : Type} : List α → Nat → α → List α
  | [], _, _ => []
  | _ :: l, 0, x => x :: l
  | a :: l, n + 1, x => a :: am_upd l n x
theorem am_nth_eq {α : Type} : ∀ (l : List α) (n : Nat), am_nth l n = l[n]?
  | [], _ => by simp [am_nth]
  | a :: l, 0 => by simp [am_nth]
  | a :: l, n + 1 => by simp [am_nth, am_nth_eq l n]
theorem am_upd_eq {α : Type} : ∀ (l : List α) (n : Nat) (x : α), am_upd l n x = l.set n x
  | [], _, _ => by simp [am_upd]
  | a :: l, 0, x => by simp [am_upd]
  | a :: l, n + 1, x => by simp [am_upd, am_upd_eq l n x]
theorem am_nth_self {α : Type} {l : List α} {n : Nat} {x y : α} (h : am_nth l n = some y) : am_nth (am_upd l n x) n = some x := by
  rw [am_nth_eq] at h
  rw [am_nth_eq, am_upd_eq, List.getElem?_set_self (List.getElem?_eq_some_iff.mp h).1]
theorem am_nth_ne {α : Type} {l : List α} {n k : Nat} {x : α} (h : n ≠ k) : am_nth (am_upd l n x) k = am_nth l k := by
  rw [am_nth_eq, am_upd_eq, List.getElem?_set_ne h, am_nth_eq]
theorem am_upd_len {α : Type} {l : List α} {n : Nat} {x : α} : (am_upd l n x).length = l.length := by
  rw [am_upd_eq, List.length_set]
/-- read: a place of the heap, or of what is given for good (from 1000 on) -/
def am_get (ro h : am_H) (a : Nat) : Option am_E := cond (Nat.blt a 1000) (am_nth h a) (am_nth ro (a - 1000))
def am_ic (c : ClassFile.Cond) (x y : Int32) : Prop := match c with
  | .eq => x = y
  | .ne => ¬ x = y
  | .lt => x < y
  | .ge => y ≤ x
  | .gt => y < x
  | .le => x ≤ y
def am_c1 : Value → Bool
  | .long _ => false
  | .double _ => false
  | _ => true
def am_cs : List Value → Nat
  | [] => 0
  | v :: r => cond (am_c1 v) 1 2 + am_cs r
/-- what touches the stack alone -/
def am_stk (ins : Instr) (r1 r2 : Nat) (st st' : List Value) : Prop := match ins with
  | .iconst _ => st' = .int (Int32.ofNat r1) :: st
  | .bipush _ => st' = .int (Int32.ofNat r1) :: st
  | .sipush _ => st' = .int (Int32.ofNat r1) :: st
  | .ldc _ => (r2 = 0 ∧ st' = .int (Int32.ofNat r1) :: st) ∨ (r2 = 1 ∧ st' = .float (UInt32.ofNat r1) :: st)
  | .ldc_w _ => st' = .int (Int32.ofNat r1) :: st
  | .lconst _ => st' = .long (Int64.ofNat r1) :: st
  | .fconst f => (f = 0 ∧ st' = .float FP.fconst0 :: st) ∨ (f = 1 ∧ st' = .float FP.fconst1 :: st) ∨ (f = 2 ∧ st' = .float FP.fconst2 :: st)
  | .dconst f => f = 0 ∧ st' = .double FP.dconst0 :: st
  | .iadd => ∃ x y r, st = .int y :: .int x :: r ∧ st' = .int (x + y) :: r
  | .isub => ∃ x y r, st = .int y :: .int x :: r ∧ st' = .int (x - y) :: r
  | .imul => ∃ x y r, st = .int y :: .int x :: r ∧ st' = .int (x * y) :: r
  | .idiv => ∃ x y r, st = .int y :: .int x :: r ∧ ¬ y = 0 ∧ st' = .int (x / y) :: r
  | .irem => ∃ x y r, st = .int y :: .int x :: r ∧ ¬ y = 0 ∧ st' = .int (x - x / y * y) :: r
  | .ineg => ∃ x r, st = .int x :: r ∧ st' = .int (-x) :: r
  | .iand => ∃ x y r, st = .int y :: .int x :: r ∧ st' = .int (x &&& y) :: r
  | .ior => ∃ x y r, st = .int y :: .int x :: r ∧ st' = .int (x ||| y) :: r
  | .ixor => ∃ x y r, st = .int y :: .int x :: r ∧ st' = .int (x ^^^ y) :: r
  | .ishl => ∃ x y r, st = .int y :: .int x :: r ∧ st' = .int (x <<< (y &&& 31)) :: r
  | .iushr => ∃ x y r, st = .int y :: .int x :: r ∧ st' = .int (x.toUInt32 >>> (y.toUInt32 &&& Int32.toUInt32 31)).toInt32 :: r
  | .i2l => ∃ x r, st = .int x :: r ∧ st' = .long x.toInt64 :: r
  | .i2f => ∃ x r, st = .int x :: r ∧ st' = .float (FP.i2f x) :: r
  | .i2d => ∃ x r, st = .int x :: r ∧ st' = .double (FP.i2d x) :: r
  | .i2c => ∃ x r, st = .int x :: r ∧ st' = .int (x.toUInt32 % 65536).toInt32 :: r
  | .ladd => ∃ x y r, st = .long y :: .long x :: r ∧ st' = .long (x + y) :: r
  | .lmul => ∃ x y r, st = .long y :: .long x :: r ∧ st' = .long (x * y) :: r
  | .lcmp => ∃ x y r, st = .long y :: .long x :: r ∧ st' = .int (lg_cmp x y) :: r
  | .fadd => ∃ x y r, st = .float y :: .float x :: r ∧ vf_n32 (FP.fadd x y) ∧ st' = .float (FP.fadd x y) :: r
  | .fsub => ∃ x y r, st = .float y :: .float x :: r ∧ vf_n32 (FP.fsub x y) ∧ st' = .float (FP.fsub x y) :: r
  | .fmul => ∃ x y r, st = .float y :: .float x :: r ∧ vf_n32 (FP.fmul x y) ∧ st' = .float (FP.fmul x y) :: r
  | .fdiv => ∃ x y r, st = .float y :: .float x :: r ∧ vf_n32 (FP.fdiv x y) ∧ st' = .float (FP.fdiv x y) :: r
  | .fneg => ∃ x r, st = .float x :: r ∧ st' = .float (FP.fneg x) :: r
  | .f2i => ∃ x r, st = .float x :: r ∧ st' = .int (FP.f2i x) :: r
  | .f2d => ∃ x r, st = .float x :: r ∧ vf_n64 (FP.f2d x) ∧ st' = .double (FP.f2d x) :: r
  | .ddiv => ∃ x y r, st = .double y :: .double x :: r ∧ vf_n64 (FP.ddiv x y) ∧ st' = .double (FP.ddiv x y) :: r
  | .fcmp op => ∃ x y r, st = .float y :: .float x :: r ∧ st' = .int (Op.cmpValue (FP.fcmp x y) op) :: r
  | .dcmp op => ∃ x y r, st = .double y :: .double x :: r ∧ st' = .int (Op.cmpValue (FP.dcmp x y) op) :: r
  | .dup => ∃ v r, st = v :: r ∧ am_c1 v = true ∧ st' = v :: v :: r
  | .dup2 => ∃ v w r, st = v :: w :: r ∧ am_c1 v = true ∧ am_c1 w = true ∧ st' = v :: w :: v :: w :: r
  | .pop => ∃ v r, st = v :: r ∧ am_c1 v = true ∧ st' = r
  | _ => False
/-- what loads a local -/
def am_ld (ins : Instr) (r1 : Nat) (lv : am_L) (st st' : List Value) : Prop := match ins with
  | .iload _ => ∃ x, am_nth lv r1 = some (some (.int x)) ∧ st' = .int x :: st
  | .iload_n _ => ∃ x, am_nth lv r1 = some (some (.int x)) ∧ st' = .int x :: st
  | .aload _ => ∃ x, am_nth lv r1 = some (some (.ref x)) ∧ st' = .ref x :: st
  | .aload_n _ => ∃ x, am_nth lv r1 = some (some (.ref x)) ∧ st' = .ref x :: st
  | .lload _ => ∃ x, am_nth lv r1 = some (some (.long x)) ∧ st' = .long x :: st
  | .lload_n _ => ∃ x, am_nth lv r1 = some (some (.long x)) ∧ st' = .long x :: st
  | .fload _ => ∃ x, am_nth lv r1 = some (some (.float x)) ∧ st' = .float x :: st
  | .fload_n _ => ∃ x, am_nth lv r1 = some (some (.float x)) ∧ st' = .float x :: st
  | .dload _ => ∃ x, am_nth lv r1 = some (some (.double x)) ∧ st' = .double x :: st
  | _ => False
def am_nc (lv : am_L) : Nat → Bool
  | 0 => true
  | j + 1 => match am_nth lv j with
    | some (some w) => am_c1 w
    | _ => true
def am_s1 (lv : am_L) (i : Nat) (v : Value) (lv' : am_L) : Prop := Nat.blt i lv.length = true ∧ am_nc lv i = true ∧ lv' = am_upd lv i (some v)
def am_s2 (lv : am_L) (i : Nat) (v : Value) (lv' : am_L) : Prop := Nat.blt (i + 1) lv.length = true ∧ am_nc lv i = true ∧ lv' = am_upd (am_upd lv i (some v)) (i + 1) none
/-- what stores a local -/
def am_sto (ins : Instr) (r1 r2 : Nat) (lv lv' : am_L) (st st' : List Value) : Prop := match ins with
  | .istore _ => ∃ x, st = .int x :: st' ∧ am_s1 lv r1 (.int x) lv'
  | .istore_n _ => ∃ x, st = .int x :: st' ∧ am_s1 lv r1 (.int x) lv'
  | .astore _ => ∃ x, st = .ref x :: st' ∧ am_s1 lv r1 (.ref x) lv'
  | .astore_n _ => ∃ x, st = .ref x :: st' ∧ am_s1 lv r1 (.ref x) lv'
  | .fstore_n _ => ∃ x, st = .float x :: st' ∧ am_s1 lv r1 (.float x) lv'
  | .lstore _ => ∃ x, st = .long x :: st' ∧ am_s2 lv r1 (.long x) lv'
  | .lstore_n _ => ∃ x, st = .long x :: st' ∧ am_s2 lv r1 (.long x) lv'
  | .dstore _ => ∃ x, st = .double x :: st' ∧ am_s2 lv r1 (.double x) lv'
  | .iinc _ _ => ∃ x, am_nth lv r1 = some (some (.int x)) ∧ am_s1 lv r1 (.int (x + Int32.ofNat r2)) lv' ∧ st' = st
  | _ => False
/-- what branches -/
def am_br (ins : Instr) (pc nx r1 : Nat) (st : List Value) (P : Nat → List Value → Prop) : Prop := match ins with
  | .goto _ => P r1 st
  | .ifCond c _ => ∃ x r, st = .int x :: r ∧ (am_ic c x 0 → P r1 r) ∧ (¬ am_ic c x 0 → P nx r)
  | .if_icmp c _ => ∃ x y r, st = .int y :: .int x :: r ∧ (am_ic c x y → P r1 r) ∧ (¬ am_ic c x y → P nx r)
  | .tableswitch d lo hi offs => ∃ x r, st = .int x :: r ∧ ((∃ tgt : Nat, (x.toInt < lo ∨ hi < x.toInt) ∧ (pc : Int) + d = (tgt : Int) ∧ P tgt r) ∨ (∃ (off : Int) (tgt : Nat), ¬ x.toInt < lo ∧ ¬ hi < x.toInt ∧ offs[(x.toInt - lo).toNat]? = some off ∧ (pc : Int) + off = (tgt : Int) ∧ P tgt r))
  | _ => False
/-- what reads or writes the heap -/
def am_hp (ro : am_H) (ft : Nat → Nat → FieldType) (ins : Instr) (r1 r2 : Nat) (st st' : List Value) (h h' : am_H) : Prop := match ins with
  | .getfield _ => ∃ a fs v r, st = .ref a :: r ∧ am_nth h a = some (.inr (r1, fs)) ∧ am_nth fs r2 = some v ∧ st' = v :: r ∧ h' = h
  | .putfield _ => ∃ a fs v r, st = v :: .ref a :: r ∧ am_nth h a = some (.inr (r1, fs)) ∧ Nat.blt r2 fs.length = true ∧ narrow (ft r1 r2) v = v ∧ fits (ft r1 r2) v = true ∧ st' = r ∧ h' = am_upd h a (.inr (r1, am_upd fs r2 v))
  | .getstatic _ => st' = .ref (1000 + r1) :: st ∧ h' = h
  | .arraylength => ∃ a t x r, st = .ref a :: r ∧ am_get ro h a = some (.inl (t, x)) ∧ Nat.blt t 5 = true ∧ st' = .int (Int32.ofNat x.1) :: r ∧ h' = h
  | .iaload => ∃ a i n f r, st = .int i :: .ref a :: r ∧ am_get ro h a = some (.inl (0, n, .inl f)) ∧ vp_in i n ∧ st' = .int (f i.toNatClampNeg) :: r ∧ h' = h
  | .caload => ∃ a i n f r, st = .int i :: .ref a :: r ∧ am_get ro h a = some (.inl (1, n, .inl f)) ∧ vp_in i n ∧ st' = .int (f i.toNatClampNeg) :: r ∧ h' = h
  | .baload => ∃ a i n f r, st = .int i :: .ref a :: r ∧ am_get ro h a = some (.inl (2, n, .inl f)) ∧ vp_in i n ∧ st' = .int (f i.toNatClampNeg) :: r ∧ h' = h
  | .laload => ∃ a i n f r, st = .int i :: .ref a :: r ∧ am_get ro h a = some (.inl (3, n, .inr (.inl f))) ∧ vp_in i n ∧ st' = .long (f i.toNatClampNeg) :: r ∧ h' = h
  | .daload => ∃ a i n f r, st = .int i :: .ref a :: r ∧ am_get ro h a = some (.inl (4, n, .inr (.inr (.inr (.inl f))))) ∧ vp_in i n ∧ st' = .double (f i.toNatClampNeg) :: r ∧ h' = h
  | .iastore => ∃ a i n f x r, st = .int x :: .int i :: .ref a :: r ∧ am_nth h a = some (.inl (0, n, .inl f)) ∧ vp_in i n ∧ st' = r ∧ h' = am_upd h a (.inl (0, n, .inl (upd f i.toNatClampNeg x)))
  | .castore => ∃ a i n f x r, st = .int x :: .int i :: .ref a :: r ∧ am_nth h a = some (.inl (1, n, .inl f)) ∧ vp_in i n ∧ st' = r ∧ h' = am_upd h a (.inl (1, n, .inl (upd f i.toNatClampNeg (vp_nar .char x))))
  | .bastore => ∃ a i n f x r, st = .int x :: .int i :: .ref a :: r ∧ am_nth h a = some (.inl (2, n, .inl f)) ∧ vp_in i n ∧ st' = r ∧ h' = am_upd h a (.inl (2, n, .inl (upd f i.toNatClampNeg (vp_nar .boolean x))))
  | .lastore => ∃ a i n f x r, st = .long x :: .int i :: .ref a :: r ∧ am_nth h a = some (.inl (3, n, .inr (.inl f))) ∧ vp_in i n ∧ st' = r ∧ h' = am_upd h a (.inl (3, n, .inr (.inl (vp_updL f i.toNatClampNeg x))))
  | .dastore => ∃ a i n f x r, st = .double x :: .int i :: .ref a :: r ∧ am_nth h a = some (.inl (4, n, .inr (.inr (.inr (.inl f))))) ∧ vp_in i n ∧ st' = r ∧ h' = am_upd h a (.inl (4, n, .inr (.inr (.inr (.inl (vf_upd f i.toNatClampNeg x))))))
  | _ => False
def am_z : Nat → ((Nat → Int32) ⊕ (Nat → Int64) ⊕ (Nat → UInt32) ⊕ (Nat → UInt64) ⊕ (Nat → Option Nat))
  | 3 => .inr (.inl (fun _ => 0))
  | 4 => .inr (.inr (.inr (.inl (fun _ => 0))))
  | _ => .inl (fun _ => 0)
/-- what makes a cell -/
def am_al (df : Nat → List Value) (ins : Instr) (r1 r2 : Nat) (st st' : List Value) (h h' : am_H) (bc bs bc' bs' : Nat) : Prop := match ins with
  | .new _ => bc = bc' + 1 ∧ bs = bs' + r2 ∧ st' = .ref h.length :: st ∧ h' = h ++ [.inr (r1, df r1)]
  | .newarray _ => ∃ N r, st = .int (Int32.ofNat N) :: r ∧ Nat.blt N 100000 = true ∧ bc = bc' + 1 ∧ bs = bs' + N ∧ st' = .ref h.length :: r ∧ h' = h ++ [.inl (r1, N, am_z r1)]
  | _ => False
def am_pop : Nat → List Value → List Value → Option (List Value × List Value)
  | 0, acc, st => some (acc, st)
  | n + 1, acc, v :: st => am_pop n (v :: acc) st
  | _ + 1, _, [] => none
/-- a call: r1 the method, r2: of a virtual one its class; of a static one 0, or 1 among nest mates, or 2: Float's raw bits; of <init> 0, 1 among nest mates, 2 Object's own -/
def am_in (G : Nat → am_M) (C : am_C) (ins : Instr) (r1 r2 : Nat) (st : List Value) (h : am_H) (bc bs : Nat) (P : List Value → am_H → Nat → Nat → Prop) : Prop := match ins with
  | .invokevirtual _ => ∃ a fs as rest bc' bs', am_pop (G r1).2.2.2.2.2.1 [] st = some (.ref a :: as, rest) ∧ am_nth h a = some (.inr (r2, fs)) ∧ Nat.ble (am_cs rest) 8 = true ∧ bc = bc' + (G r1).2.2.2.2.2.2.1 ∧ bs = bs' + (G r1).2.2.2.2.2.2.2 ∧ C r1 (.ref a :: as) h (fun r h' => P (r.toList ++ rest) h' bc' bs')
  | .invokestatic _ => (r2 = 2 ∧ ∃ b r, st = .float b :: r ∧ Nat.ble (am_cs r) 8 = true ∧ P (.int b.toInt32 :: r) h bc bs) ∨ (r2 < 2 ∧ ∃ as rest bc' bs', am_pop (G r1).2.2.2.2.2.1 [] st = some (as, rest) ∧ Nat.ble (am_cs rest) 8 = true ∧ bc = bc' + (G r1).2.2.2.2.2.2.1 ∧ bs = bs' + (G r1).2.2.2.2.2.2.2 ∧ C r1 as h (fun r h' => P (r.toList ++ rest) h' bc' bs'))
  | .invokespecial _ => (r2 = 2 ∧ ∃ a r, st = .ref a :: r ∧ Nat.ble (am_cs r) 8 = true ∧ P r h bc bs) ∨ (r2 < 2 ∧ ∃ a as rest bc' bs', am_pop (G r1).2.2.2.2.2.1 [] st = some (.ref a :: as, rest) ∧ Nat.ble (am_cs rest) 8 = true ∧ bc = bc' + (G r1).2.2.2.2.2.2.1 ∧ bs = bs' + (G r1).2.2.2.2.2.2.2 ∧ C r1 (.ref a :: as) h (fun r h' => P (r.toList ++ rest) h' bc' bs'))
  | _ => False
/-- what ends the method -/
def am_rt (rt : Option FieldType) (ins : Instr) (st : List Value) (K : Option Value → Prop) : Prop := match ins with
  | .ireturn => ∃ x ty, st = [.int x] ∧ rt = some ty ∧ narrow ty (.int x) = .int x ∧ K (some (.int x))
  | .lreturn => ∃ x, st = [.long x] ∧ rt = some .long ∧ K (some (.long x))
  | .freturn => ∃ x, st = [.float x] ∧ rt = some .float ∧ K (some (.float x))
  | .dreturn => ∃ x, st = [.double x] ∧ rt = some .double ∧ K (some (.double x))
  | .return_ => st = [] ∧ rt = none ∧ K none
  | _ => False
section AMS
variable (G : Nat → am_M) (ro : am_H) (ft : Nat → Nat → FieldType) (df : Nat → List Value)
def am_row (C : am_C) (rt : Option FieldType) (K : am_K) (P : am_P) (w : am_R) (pc : Nat) (lv : am_L) (st : List Value) (h : am_H) (bc bs : Nat) : Prop :=
  (∃ st', am_stk w.1 w.2.2.1 w.2.2.2 st st' ∧ P w.2.1 lv st' h bc bs) ∨
  (∃ st', am_ld w.1 w.2.2.1 lv st st' ∧ P w.2.1 lv st' h bc bs) ∨
  (∃ lv' st', am_sto w.1 w.2.2.1 w.2.2.2 lv lv' st st' ∧ P w.2.1 lv' st' h bc bs) ∨
  am_br w.1 pc w.2.1 w.2.2.1 st (fun q st' => P q lv st' h bc bs) ∨
  (∃ st' h', am_hp ro ft w.1 w.2.2.1 w.2.2.2 st st' h h' ∧ P w.2.1 lv st' h' bc bs) ∨
  (∃ st' h' bc' bs', Nat.blt h.length 1000 = true ∧ am_al df w.1 w.2.2.1 w.2.2.2 st st' h h' bc bs bc' bs' ∧ P w.2.1 lv st' h' bc' bs') ∨
  am_in G C w.1 w.2.2.1 w.2.2.2 st h bc bs (fun st' h' bc' bs' => P w.2.1 lv st' h' bc' bs') ∨
  am_rt rt w.1 st (fun v => K v h)
def am_le (lv lv' : am_L) : Prop := lv.length = lv'.length ∧ ∀ i v, am_nth lv i = some (some v) → am_nth lv' i = some (some v)
def am_mono (P : am_P) : Prop := ∀ pc lv lv' st h bc bs, am_le lv lv' → P pc lv st h bc bs → P pc lv' st h bc bs
def am_cl (C : am_C) (m : Nat) (K : am_K) (P : am_P) : Prop := ∀ pc lv st h bc bs, am_row G ro ft df C (G m).2.2.2.1 K P ((G m).2.2.2.2.1 pc) pc lv st h bc bs → P pc lv st h bc bs
def am_sp : List Value → am_L
  | [] => []
  | v :: r => cond (am_c1 v) (some v :: am_sp r) (some v :: none :: am_sp r)
def am_padN : Nat → am_L → am_L
  | 0, _ => []
  | n + 1, [] => none :: am_padN n []
  | n + 1, x :: r => x :: am_padN n r
/-- a method's run, with at most d methods open at once -/
def am_Ex : Nat → am_C
  | 0 => fun _ _ _ _ => False
  | d + 1 => fun m args h K => Nat.ble (am_sp args).length (G m).2.2.1 = true ∧ ∀ P : am_P, am_mono P → am_cl G ro ft df (am_Ex d) m K P → P 0 (am_padN (G m).2.2.1 (am_sp args)) [] h (G m).2.2.2.2.2.2.1 (G m).2.2.2.2.2.2.2
end AMS
