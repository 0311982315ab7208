/-- what stands throughout a method's walk -/
def Cx (p : Program) (l : Launch) (e : Env) (R : Room) (s : State) (m : MethodId) (args : Array Value) (below : List Frame) (meth : Method) (c : Code) (cc : ByteArray) (nL : Nat) (own : String) (G : GT) (A : Nat → Prop) : Prop :=
  p.tables.exec = Jvm.exec ∧ c.code = cc ∧ c.maxLocals = nL ∧ s.vm.findClass own = some m.cls ∧ (∀ w ∈ wsG, w.before args s = true) ∧ meth.locks = false ∧ gK G s ∧ gE G A s s.heap ∧ (∀ q : Nat, s.heap.size ≤ q → A q)
/-- the walk: from every heap that the state S tells, with the locals lv and the stack st, the machine at pc comes to Q -/
def V (p : Program) (l : Launch) (e : Env) (R : Room) (s : State) (m : MethodId) (args : Array Value) (below : List Frame) (meth : Method) (c : Code) (nL : Nat) (G : GT) (A : Nat → Prop) (S : HS) (k n : Nat) (Q : State → Prop) (pc : Nat) (lv : List (Nat × Value)) (st : List Value) : Prop :=
  ∀ (H : Heap) (locs : List Loc) (ls : Array Slot), Wd G A S H → va_S A s.heap H locs → lv_has ls nL lv → W p l e R s m args below meth c H locs k n Q (F0 m pc ls st)
/-- the walk with an object of class E thrown at pc -/
def VX (p : Program) (l : Launch) (e : Env) (R : Room) (s : State) (m : MethodId) (args : Array Value) (below : List Frame) (meth : Method) (c : Code) (nL : Nat) (G : GT) (A : Nat → Prop) (S : HS) (k n : Nat) (Q : State → Prop) (pc : Nat) (lv : List (Nat × Value)) (st : List Value) (E : String) : Prop :=
  ∀ (H : Heap) (locs : List Loc) (ls : Array Slot) (q : Nat) (ce : Cell), Wd G A S H → va_S A s.heap H locs → lv_has ls nL lv → H[q]? = some ce → ce.vm = .none → s.vm.findClass E = some ce.cls → vx_W p l e R s m args below meth c H locs k n Q (F0 m pc ls st) q
section WALK
variable {p : Program} {l : Launch} {e : Env} {R : Room} {s : State} {m : MethodId} {args : Array Value} {below : List Frame} {meth : Method} {c : Code} {cc : ByteArray} {nL : Nat} {own : String} {G : GT} {A : Nat → Prop} {S : HS} {k n : Nat} {Q : State → Prop} {pc : Nat} {lv lv' : List (Nat × Value)} {st : List Value}
theorem V.eq {S' : HS} {lv2 : List (Nat × Value)} {st' : List Value} (h : V p l e R s m args below meth c nL G A (S') (k) (n) Q (pc) (lv2) (st')) (hS : S' = S) (hl : lv2 = lv) (hs : st' = st) : V p l e R s m args below meth c nL G A (S) (k) (n) Q (pc) (lv) (st) := by
  subst hS; subst hl; subst hs; exact h
theorem V.widen {k' n' : Nat} (h1 : k ≤ k') (h2 : n ≤ n') (h : V p l e R s m args below meth c nL G A (S) (k') (n') Q (pc) (lv) (st)) : V p l e R s m args below meth c nL G A (S) (k) (n) Q (pc) (lv) (st) := fun H locs ls hW hS hv => W.widen h1 h2 (h H locs ls hW hS hv)
theorem V.sub (ks : List Nat) (hl : lv_pick lv ks = lv') (h : V p l e R s m args below meth c nL G A (S) (k) (n) Q (pc) (lv') (st)) : V p l e R s m args below meth c nL G A (S) (k) (n) Q (pc) (lv) (st) := fun H locs ls hW hS hv => h H locs ls hW hS (lv_sub hv ks hl)
theorem v_iadd (C : Cx p l e R s m args below meth c cc nL own G A) {x y : Int32} (hd : decode cc pc = .ok (.iadd, 1)) (kk : V p l e R s m args below meth c nL G A (S) (k) (n) Q (pc + 1) (lv) (.int (x + y) :: st)) : V p l e R s m args below meth c nL G A (S) (k) (n) Q (pc) (lv) (.int y :: .int x :: st) := fun H locs ls hW hS hv => lv_iadd C.1 C.2.1 hd (kk H locs ls hW hS hv)
theorem v_isub (C : Cx p l e R s m args below meth c cc nL own G A) {x y : Int32} (hd : decode cc pc = .ok (.isub, 1)) (kk : V p l e R s m args below meth c nL G A (S) (k) (n) Q (pc + 1) (lv) (.int (x - y) :: st)) : V p l e R s m args below meth c nL G A (S) (k) (n) Q (pc) (lv) (.int y :: .int x :: st) := fun H locs ls hW hS hv => lv_isub C.1 C.2.1 hd (kk H locs ls hW hS hv)
theorem v_imul (C : Cx p l e R s m args below meth c cc nL own G A) {x y : Int32} (hd : decode cc pc = .ok (.imul, 1)) (kk : V p l e R s m args below meth c nL G A (S) (k) (n) Q (pc + 1) (lv) (.int (x * y) :: st)) : V p l e R s m args below meth c nL G A (S) (k) (n) Q (pc) (lv) (.int y :: .int x :: st) := fun H locs ls hW hS hv => lv_imul C.1 C.2.1 hd (kk H locs ls hW hS hv)
theorem v_iand (C : Cx p l e R s m args below meth c cc nL own G A) {x y : Int32} (hd : decode cc pc = .ok (.iand, 1)) (kk : V p l e R s m args below meth c nL G A (S) (k) (n) Q (pc + 1) (lv) (.int (x &&& y) :: st)) : V p l e R s m args below meth c nL G A (S) (k) (n) Q (pc) (lv) (.int y :: .int x :: st) := fun H locs ls hW hS hv => lv_iand C.1 C.2.1 hd (kk H locs ls hW hS hv)
theorem v_ior (C : Cx p l e R s m args below meth c cc nL own G A) {x y : Int32} (hd : decode cc pc = .ok (.ior, 1)) (kk : V p l e R s m args below meth c nL G A (S) (k) (n) Q (pc + 1) (lv) (.int (x ||| y) :: st)) : V p l e R s m args below meth c nL G A (S) (k) (n) Q (pc) (lv) (.int y :: .int x :: st) := fun H locs ls hW hS hv => lv_ior C.1 C.2.1 hd (kk H locs ls hW hS hv)
theorem v_ishl (C : Cx p l e R s m args below meth c cc nL own G A) {x y : Int32} (hd : decode cc pc = .ok (.ishl, 1)) (kk : V p l e R s m args below meth c nL G A (S) (k) (n) Q (pc + 1) (lv) (.int (x <<< (y &&& 31)) :: st)) : V p l e R s m args below meth c nL G A (S) (k) (n) Q (pc) (lv) (.int y :: .int x :: st) := fun H locs ls hW hS hv => lv_ishl C.1 C.2.1 hd (kk H locs ls hW hS hv)
theorem v_ishr (C : Cx p l e R s m args below meth c cc nL own G A) {x y : Int32} (hd : decode cc pc = .ok (.ishr, 1)) (kk : V p l e R s m args below meth c nL G A (S) (k) (n) Q (pc + 1) (lv) (.int (x >>> (y &&& 31)) :: st)) : V p l e R s m args below meth c nL G A (S) (k) (n) Q (pc) (lv) (.int y :: .int x :: st) := fun H locs ls hW hS hv => lv_ishr C.1 C.2.1 hd (kk H locs ls hW hS hv)
theorem v_idiv (C : Cx p l e R s m args below meth c cc nL own G A) {x y : Int32} (hne : ¬ y = 0) (hd : decode cc pc = .ok (.idiv, 1)) (kk : V p l e R s m args below meth c nL G A (S) (k) (n) Q (pc + 1) (lv) (.int (x / y) :: st)) : V p l e R s m args below meth c nL G A (S) (k) (n) Q (pc) (lv) (.int y :: .int x :: st) := fun H locs ls hW hS hv => lv_idiv C.1 C.2.1 hd hne (kk H locs ls hW hS hv)
theorem v_ineg (C : Cx p l e R s m args below meth c cc nL own G A) {x : Int32} (hd : decode cc pc = .ok (.ineg, 1)) (kk : V p l e R s m args below meth c nL G A (S) (k) (n) Q (pc + 1) (lv) (.int (-x) :: st)) : V p l e R s m args below meth c nL G A (S) (k) (n) Q (pc) (lv) (.int x :: st) := fun H locs ls hW hS hv => lv_ineg C.1 C.2.1 hd (kk H locs ls hW hS hv)
theorem v_ixor (C : Cx p l e R s m args below meth c cc nL own G A) {x y : Int32} (hd : decode cc pc = .ok (.ixor, 1)) (kk : V p l e R s m args below meth c nL G A (S) (k) (n) Q (pc + 1) (lv) (.int (x ^^^ y) :: st)) : V p l e R s m args below meth c nL G A (S) (k) (n) Q (pc) (lv) (.int y :: .int x :: st) := fun H locs ls hW hS hv => lv_ixor C.1 C.2.1 hd (kk H locs ls hW hS hv)
theorem v_lxor (C : Cx p l e R s m args below meth c cc nL own G A) {x y : Int64} (hd : decode cc pc = .ok (.lxor, 1)) (kk : V p l e R s m args below meth c nL G A (S) (k) (n) Q (pc + 1) (lv) (.long (x ^^^ y) :: st)) : V p l e R s m args below meth c nL G A (S) (k) (n) Q (pc) (lv) (.long y :: .long x :: st) := fun H locs ls hW hS hv => lv_lxor C.1 C.2.1 hd (kk H locs ls hW hS hv)
theorem v_ladd (C : Cx p l e R s m args below meth c cc nL own G A) {x y : Int64} (hd : decode cc pc = .ok (.ladd, 1)) (kk : V p l e R s m args below meth c nL G A (S) (k) (n) Q (pc + 1) (lv) (.long (x + y) :: st)) : V p l e R s m args below meth c nL G A (S) (k) (n) Q (pc) (lv) (.long y :: .long x :: st) := fun H locs ls hW hS hv => lv_ladd C.1 C.2.1 hd (kk H locs ls hW hS hv)
theorem v_lsub (C : Cx p l e R s m args below meth c cc nL own G A) {x y : Int64} (hd : decode cc pc = .ok (.lsub, 1)) (kk : V p l e R s m args below meth c nL G A (S) (k) (n) Q (pc + 1) (lv) (.long (x - y) :: st)) : V p l e R s m args below meth c nL G A (S) (k) (n) Q (pc) (lv) (.long y :: .long x :: st) := fun H locs ls hW hS hv => lv_lsub C.1 C.2.1 hd (kk H locs ls hW hS hv)
theorem v_lmul (C : Cx p l e R s m args below meth c cc nL own G A) {x y : Int64} (hd : decode cc pc = .ok (.lmul, 1)) (kk : V p l e R s m args below meth c nL G A (S) (k) (n) Q (pc + 1) (lv) (.long (x * y) :: st)) : V p l e R s m args below meth c nL G A (S) (k) (n) Q (pc) (lv) (.long y :: .long x :: st) := fun H locs ls hW hS hv => lv_lmul C.1 C.2.1 hd (kk H locs ls hW hS hv)
theorem v_ldiv (C : Cx p l e R s m args below meth c cc nL own G A) {x y : Int64} (hne : ¬ y = 0) (hd : decode cc pc = .ok (.ldiv, 1)) (kk : V p l e R s m args below meth c nL G A (S) (k) (n) Q (pc + 1) (lv) (.long (x / y) :: st)) : V p l e R s m args below meth c nL G A (S) (k) (n) Q (pc) (lv) (.long y :: .long x :: st) := fun H locs ls hW hS hv => lv_ldiv C.1 C.2.1 hd hne (kk H locs ls hW hS hv)
theorem v_lcmp (C : Cx p l e R s m args below meth c cc nL own G A) {x y : Int64} (hd : decode cc pc = .ok (.lcmp, 1)) (kk : V p l e R s m args below meth c nL G A (S) (k) (n) Q (pc + 1) (lv) (.int (lg_cmp x y) :: st)) : V p l e R s m args below meth c nL G A (S) (k) (n) Q (pc) (lv) (.long y :: .long x :: st) := fun H locs ls hW hS hv => W.lcmp C.1 C.2.1 hd (kk H locs ls hW hS hv)
theorem v_i2l (C : Cx p l e R s m args below meth c cc nL own G A) {x : Int32} (hd : decode cc pc = .ok (.i2l, 1)) (kk : V p l e R s m args below meth c nL G A (S) (k) (n) Q (pc + 1) (lv) (.long x.toInt64 :: st)) : V p l e R s m args below meth c nL G A (S) (k) (n) Q (pc) (lv) (.int x :: st) := fun H locs ls hW hS hv => lv_i2l C.1 C.2.1 hd rfl (kk H locs ls hW hS hv)
theorem v_l2i (C : Cx p l e R s m args below meth c cc nL own G A) {x : Int64} (hd : decode cc pc = .ok (.l2i, 1)) (kk : V p l e R s m args below meth c nL G A (S) (k) (n) Q (pc + 1) (lv) (.int x.toInt32 :: st)) : V p l e R s m args below meth c nL G A (S) (k) (n) Q (pc) (lv) (.long x :: st) := fun H locs ls hW hS hv => lv_l2i C.1 C.2.1 hd rfl (kk H locs ls hW hS hv)
theorem v_i2c (C : Cx p l e R s m args below meth c cc nL own G A) {x : Int32} (hd : decode cc pc = .ok (.i2c, 1)) (kk : V p l e R s m args below meth c nL G A (S) (k) (n) Q (pc + 1) (lv) (.int (x.toUInt32 % 65536).toInt32 :: st)) : V p l e R s m args below meth c nL G A (S) (k) (n) Q (pc) (lv) (.int x :: st) := fun H locs ls hW hS hv => lv_i2c C.1 C.2.1 hd rfl (kk H locs ls hW hS hv)
theorem v_i2f (C : Cx p l e R s m args below meth c cc nL own G A) {x : Int32} (hd : decode cc pc = .ok (.i2f, 1)) (kk : V p l e R s m args below meth c nL G A (S) (k) (n) Q (pc + 1) (lv) (.float (FP.i2f x) :: st)) : V p l e R s m args below meth c nL G A (S) (k) (n) Q (pc) (lv) (.int x :: st) := fun H locs ls hW hS hv => lv_i2f C.1 C.2.1 hd (kk H locs ls hW hS hv)
theorem v_i2d (C : Cx p l e R s m args below meth c cc nL own G A) {x : Int32} (hd : decode cc pc = .ok (.i2d, 1)) (kk : V p l e R s m args below meth c nL G A (S) (k) (n) Q (pc + 1) (lv) (.double (FP.i2d x) :: st)) : V p l e R s m args below meth c nL G A (S) (k) (n) Q (pc) (lv) (.int x :: st) := fun H locs ls hW hS hv => lv_i2d C.1 C.2.1 hd (kk H locs ls hW hS hv)
theorem v_dcmp (C : Cx p l e R s m args below meth c cc nL own G A) {x y : UInt64} {op : CmpOp} (hd : decode cc pc = .ok (.dcmp op, 1)) (kk : V p l e R s m args below meth c nL G A (S) (k) (n) Q (pc + 1) (lv) (.int (Op.cmpValue (FP.dcmp x y) op) :: st)) : V p l e R s m args below meth c nL G A (S) (k) (n) Q (pc) (lv) (.double y :: .double x :: st) := fun H locs ls hW hS hv => lv_dcmp C.1 C.2.1 hd (kk H locs ls hW hS hv)
theorem v_dup (C : Cx p l e R s m args below meth c cc nL own G A) {va : Value} (hva : va.category = 1) (hd : decode cc pc = .ok (.dup, 1)) (kk : V p l e R s m args below meth c nL G A (S) (k) (n) Q (pc + 1) (lv) (va :: va :: st)) : V p l e R s m args below meth c nL G A (S) (k) (n) Q (pc) (lv) (va :: st) := fun H locs ls hW hS hv => lv_dup C.1 C.2.1 hd hva (kk H locs ls hW hS hv)
theorem v_pop (C : Cx p l e R s m args below meth c cc nL own G A) {va : Value} (hva : va.category = 1) (hd : decode cc pc = .ok (.pop, 1)) (kk : V p l e R s m args below meth c nL G A (S) (k) (n) Q (pc + 1) (lv) (st)) : V p l e R s m args below meth c nL G A (S) (k) (n) Q (pc) (lv) (va :: st) := fun H locs ls hW hS hv => lv_pop C.1 C.2.1 hd hva (kk H locs ls hW hS hv)
theorem v_dup2 (C : Cx p l e R s m args below meth c cc nL own G A) {va vb : Value} (hva : va.category = 1) (hvb : vb.category = 1) (hd : decode cc pc = .ok (.dup2, 1)) (kk : V p l e R s m args below meth c nL G A (S) (k) (n) Q (pc + 1) (lv) (va :: vb :: va :: vb :: st)) : V p l e R s m args below meth c nL G A (S) (k) (n) Q (pc) (lv) (va :: vb :: st) := fun H locs ls hW hS hv => lv_dup2_11 C.1 C.2.1 hd hva hvb (kk H locs ls hW hS hv)
theorem v_null (C : Cx p l e R s m args below meth c cc nL own G A) (hd : decode cc pc = .ok (.aconst_null, 1)) (kk : V p l e R s m args below meth c nL G A (S) (k) (n) Q (pc + 1) (lv) (.null :: st)) : V p l e R s m args below meth c nL G A (S) (k) (n) Q (pc) (lv) (st) := fun H locs ls hW hS hv => lv_null C.1 C.2.1 hd (kk H locs ls hW hS hv)
theorem v_iconst (C : Cx p l e R s m args below meth c cc nL own G A) {z : Int} (x : Int32) (hx : Int32.ofInt z = x) (hd : decode cc pc = .ok (.iconst z, 1)) (kk : V p l e R s m args below meth c nL G A (S) (k) (n) Q (pc + 1) (lv) (.int x :: st)) : V p l e R s m args below meth c nL G A (S) (k) (n) Q (pc) (lv) (st) := fun H locs ls hW hS hv => lv_iconst C.1 C.2.1 hd hx (kk H locs ls hW hS hv)
theorem v_bipush (C : Cx p l e R s m args below meth c cc nL own G A) {z : Int} (x : Int32) (hx : (Int8.ofInt z).toInt32 = x) (hd : decode cc pc = .ok (.bipush z, 2)) (kk : V p l e R s m args below meth c nL G A (S) (k) (n) Q (pc + 2) (lv) (.int x :: st)) : V p l e R s m args below meth c nL G A (S) (k) (n) Q (pc) (lv) (st) := fun H locs ls hW hS hv => lv_bipush C.1 C.2.1 hd hx (kk H locs ls hW hS hv)
theorem v_sipush (C : Cx p l e R s m args below meth c cc nL own G A) {z : Int} (x : Int32) (hx : (Int16.ofInt z).toInt32 = x) (hd : decode cc pc = .ok (.sipush z, 3)) (kk : V p l e R s m args below meth c nL G A (S) (k) (n) Q (pc + 3) (lv) (.int x :: st)) : V p l e R s m args below meth c nL G A (S) (k) (n) Q (pc) (lv) (st) := fun H locs ls hW hS hv => lv_sipush C.1 C.2.1 hd hx (kk H locs ls hW hS hv)
theorem v_lconst (C : Cx p l e R s m args below meth c cc nL own G A) {z : Fin 2} (x : Int64) (hx : Int64.ofNat (z : Nat) = x) (hd : decode cc pc = .ok (.lconst z, 1)) (kk : V p l e R s m args below meth c nL G A (S) (k) (n) Q (pc + 1) (lv) (.long x :: st)) : V p l e R s m args below meth c nL G A (S) (k) (n) Q (pc) (lv) (st) := fun H locs ls hW hS hv => lv_lconst C.1 C.2.1 hd hx (kk H locs ls hW hS hv)
theorem v_ldc2 (C : Cx p l e R s m args below meth c cc nL own G A) {i : Nat} {x : Int64} (hw : Cond.constantLong own i x ∈ wsG) (hd : decode cc pc = .ok (.ldc2_w i, 3)) (kk : V p l e R s m args below meth c nL G A (S) (k) (n) Q (pc + 3) (lv) (.long x :: st)) : V p l e R s m args below meth c nL G A (S) (k) (n) Q (pc) (lv) (st) := fun H locs ls hW hS hv => lv_ldc2 C.1 C.2.1 C.2.2.2.1 (C.2.2.2.2.1 _ hw) hd (kk H locs ls hW hS hv)
theorem v_ldcw (C : Cx p l e R s m args below meth c cc nL own G A) {i : Nat} {x : Int32} (hw : Cond.constant own i x ∈ wsG) (hd : decode cc pc = .ok (.ldc_w i, 3)) (kk : V p l e R s m args below meth c nL G A (S) (k) (n) Q (pc + 3) (lv) (.int x :: st)) : V p l e R s m args below meth c nL G A (S) (k) (n) Q (pc) (lv) (st) := fun H locs ls hW hS hv => lv_ldcw C.1 C.2.1 C.2.2.2.1 (C.2.2.2.2.1 _ hw) hd (kk H locs ls hW hS hv)
theorem v_iload_n (C : Cx p l e R s m args below meth c cc nL own G A) {i : Fin 4} {j0 : Nat} {x : Int32} (j : Nat) (hl : lv[j]? = some (j0, .int x)) (hi : (i : Nat) = j0) (hd : decode cc pc = .ok (.iload_n i, 1)) (kk : V p l e R s m args below meth c nL G A (S) (k) (n) Q (pc + 1) (lv) (.int x :: st)) : V p l e R s m args below meth c nL G A (S) (k) (n) Q (pc) (lv) (st) := fun H locs ls hW hS hv => lv_iload_n C.1 C.2.1 hd hi (lv_at hv j hl) (kk H locs ls hW hS hv)
theorem v_iload (C : Cx p l e R s m args below meth c cc nL own G A) {i : Nat} {x : Int32} (j : Nat) (hl : lv[j]? = some (i, .int x)) (hd : decode cc pc = .ok (.iload i, 2)) (kk : V p l e R s m args below meth c nL G A (S) (k) (n) Q (pc + 2) (lv) (.int x :: st)) : V p l e R s m args below meth c nL G A (S) (k) (n) Q (pc) (lv) (st) := fun H locs ls hW hS hv => lv_iload C.1 C.2.1 hd (lv_at hv j hl) (kk H locs ls hW hS hv)
theorem v_aload_n (C : Cx p l e R s m args below meth c cc nL own G A) {i : Fin 4} {j0 : Nat} {x : Nat} (j : Nat) (hl : lv[j]? = some (j0, .ref x)) (hi : (i : Nat) = j0) (hd : decode cc pc = .ok (.aload_n i, 1)) (kk : V p l e R s m args below meth c nL G A (S) (k) (n) Q (pc + 1) (lv) (.ref x :: st)) : V p l e R s m args below meth c nL G A (S) (k) (n) Q (pc) (lv) (st) := fun H locs ls hW hS hv => lv_aload_n C.1 C.2.1 hd hi (lv_at hv j hl) (kk H locs ls hW hS hv)
theorem v_aload (C : Cx p l e R s m args below meth c cc nL own G A) {i : Nat} {x : Nat} (j : Nat) (hl : lv[j]? = some (i, .ref x)) (hd : decode cc pc = .ok (.aload i, 2)) (kk : V p l e R s m args below meth c nL G A (S) (k) (n) Q (pc + 2) (lv) (.ref x :: st)) : V p l e R s m args below meth c nL G A (S) (k) (n) Q (pc) (lv) (st) := fun H locs ls hW hS hv => lv_aload C.1 C.2.1 hd (lv_at hv j hl) (kk H locs ls hW hS hv)
theorem v_lload_n (C : Cx p l e R s m args below meth c cc nL own G A) {i : Fin 4} {j0 : Nat} {x : Int64} (j : Nat) (hl : lv[j]? = some (j0, .long x)) (hi : (i : Nat) = j0) (hd : decode cc pc = .ok (.lload_n i, 1)) (kk : V p l e R s m args below meth c nL G A (S) (k) (n) Q (pc + 1) (lv) (.long x :: st)) : V p l e R s m args below meth c nL G A (S) (k) (n) Q (pc) (lv) (st) := fun H locs ls hW hS hv => lv_lload_n C.1 C.2.1 hd hi (lv_at hv j hl) (kk H locs ls hW hS hv)
theorem v_lload (C : Cx p l e R s m args below meth c cc nL own G A) {i : Nat} {x : Int64} (j : Nat) (hl : lv[j]? = some (i, .long x)) (hd : decode cc pc = .ok (.lload i, 2)) (kk : V p l e R s m args below meth c nL G A (S) (k) (n) Q (pc + 2) (lv) (.long x :: st)) : V p l e R s m args below meth c nL G A (S) (k) (n) Q (pc) (lv) (st) := fun H locs ls hW hS hv => lv_lload C.1 C.2.1 hd (lv_at hv j hl) (kk H locs ls hW hS hv)
theorem v_dload_n (C : Cx p l e R s m args below meth c cc nL own G A) {i : Fin 4} {j0 : Nat} {x : UInt64} (j : Nat) (hl : lv[j]? = some (j0, .double x)) (hi : (i : Nat) = j0) (hd : decode cc pc = .ok (.dload_n i, 1)) (kk : V p l e R s m args below meth c nL G A (S) (k) (n) Q (pc + 1) (lv) (.double x :: st)) : V p l e R s m args below meth c nL G A (S) (k) (n) Q (pc) (lv) (st) := fun H locs ls hW hS hv => lv_dload_n C.1 C.2.1 hd hi (lv_at hv j hl) (kk H locs ls hW hS hv)
theorem v_dload (C : Cx p l e R s m args below meth c cc nL own G A) {i : Nat} {x : UInt64} (j : Nat) (hl : lv[j]? = some (i, .double x)) (hd : decode cc pc = .ok (.dload i, 2)) (kk : V p l e R s m args below meth c nL G A (S) (k) (n) Q (pc + 2) (lv) (.double x :: st)) : V p l e R s m args below meth c nL G A (S) (k) (n) Q (pc) (lv) (st) := fun H locs ls hW hS hv => lv_dload C.1 C.2.1 hd (lv_at hv j hl) (kk H locs ls hW hS hv)
theorem v_fload_n (C : Cx p l e R s m args below meth c cc nL own G A) {i : Fin 4} {j0 : Nat} {x : UInt32} (j : Nat) (hl : lv[j]? = some (j0, .float x)) (hi : (i : Nat) = j0) (hd : decode cc pc = .ok (.fload_n i, 1)) (kk : V p l e R s m args below meth c nL G A (S) (k) (n) Q (pc + 1) (lv) (.float x :: st)) : V p l e R s m args below meth c nL G A (S) (k) (n) Q (pc) (lv) (st) := fun H locs ls hW hS hv => lv_fload_n C.1 C.2.1 hd hi (lv_at hv j hl) (kk H locs ls hW hS hv)
theorem v_fload (C : Cx p l e R s m args below meth c cc nL own G A) {i : Nat} {x : UInt32} (j : Nat) (hl : lv[j]? = some (i, .float x)) (hd : decode cc pc = .ok (.fload i, 2)) (kk : V p l e R s m args below meth c nL G A (S) (k) (n) Q (pc + 2) (lv) (.float x :: st)) : V p l e R s m args below meth c nL G A (S) (k) (n) Q (pc) (lv) (st) := fun H locs ls hW hS hv => lv_fload C.1 C.2.1 hd (lv_at hv j hl) (kk H locs ls hW hS hv)
theorem v_aload_nN (C : Cx p l e R s m args below meth c cc nL own G A) {i : Fin 4} {j0 : Nat} (j : Nat) (hl : lv[j]? = some (j0, .null)) (hi : (i : Nat) = j0) (hd : decode cc pc = .ok (.aload_n i, 1)) (kk : V p l e R s m args below meth c nL G A (S) (k) (n) Q (pc + 1) (lv) (.null :: st)) : V p l e R s m args below meth c nL G A (S) (k) (n) Q (pc) (lv) (st) := fun H locs ls hW hS hv => lv_aload_nN C.1 C.2.1 hd hi (lv_at hv j hl) (kk H locs ls hW hS hv)
theorem v_aloadN (C : Cx p l e R s m args below meth c cc nL own G A) {i : Nat} (j : Nat) (hl : lv[j]? = some (i, .null)) (hd : decode cc pc = .ok (.aload i, 2)) (kk : V p l e R s m args below meth c nL G A (S) (k) (n) Q (pc + 2) (lv) (.null :: st)) : V p l e R s m args below meth c nL G A (S) (k) (n) Q (pc) (lv) (st) := fun H locs ls hW hS hv => lv_aloadN C.1 C.2.1 hd (lv_at hv j hl) (kk H locs ls hW hS hv)
theorem v_istore_n (C : Cx p l e R s m args below meth c cc nL own G A) {kf : Fin 4} {i : Nat} {x : Int32} (lv2 : List (Nat × Value)) (hn : i < nL) (hl : (i, Value.int x) :: lv.filter (fun q => !(q.1 == i) && !(q.1 + 1 == i && q.2.category == 2)) = lv2) (hi : (kf : Nat) = i) (hd : decode cc pc = .ok (.istore_n kf, 1)) (kk : V p l e R s m args below meth c nL G A (S) (k) (n) Q (pc + 1) (lv2) (st)) : V p l e R s m args below meth c nL G A (S) (k) (n) Q (pc) (lv) (.int x :: st) := fun H locs ls hW hS hv => lv_istore_n C.1 C.2.1 hd hi hv hn hl (fun ls hv => kk H locs ls hW hS hv)
theorem v_istore (C : Cx p l e R s m args below meth c cc nL own G A) {i : Nat} {x : Int32} (lv2 : List (Nat × Value)) (hn : i < nL) (hl : (i, Value.int x) :: lv.filter (fun q => !(q.1 == i) && !(q.1 + 1 == i && q.2.category == 2)) = lv2) (hd : decode cc pc = .ok (.istore i, 2)) (kk : V p l e R s m args below meth c nL G A (S) (k) (n) Q (pc + 2) (lv2) (st)) : V p l e R s m args below meth c nL G A (S) (k) (n) Q (pc) (lv) (.int x :: st) := fun H locs ls hW hS hv => lv_istore C.1 C.2.1 hd hv hn hl (fun ls hv => kk H locs ls hW hS hv)
theorem v_astore_n (C : Cx p l e R s m args below meth c cc nL own G A) {kf : Fin 4} {i : Nat} {x : Nat} (lv2 : List (Nat × Value)) (hn : i < nL) (hl : (i, Value.ref x) :: lv.filter (fun q => !(q.1 == i) && !(q.1 + 1 == i && q.2.category == 2)) = lv2) (hi : (kf : Nat) = i) (hd : decode cc pc = .ok (.astore_n kf, 1)) (kk : V p l e R s m args below meth c nL G A (S) (k) (n) Q (pc + 1) (lv2) (st)) : V p l e R s m args below meth c nL G A (S) (k) (n) Q (pc) (lv) (.ref x :: st) := fun H locs ls hW hS hv => lv_astore_n C.1 C.2.1 hd hi hv hn hl (fun ls hv => kk H locs ls hW hS hv)
theorem v_astore (C : Cx p l e R s m args below meth c cc nL own G A) {i : Nat} {x : Nat} (lv2 : List (Nat × Value)) (hn : i < nL) (hl : (i, Value.ref x) :: lv.filter (fun q => !(q.1 == i) && !(q.1 + 1 == i && q.2.category == 2)) = lv2) (hd : decode cc pc = .ok (.astore i, 2)) (kk : V p l e R s m args below meth c nL G A (S) (k) (n) Q (pc + 2) (lv2) (st)) : V p l e R s m args below meth c nL G A (S) (k) (n) Q (pc) (lv) (.ref x :: st) := fun H locs ls hW hS hv => lv_astore C.1 C.2.1 hd hv hn hl (fun ls hv => kk H locs ls hW hS hv)
theorem v_lstore_n (C : Cx p l e R s m args below meth c cc nL own G A) {kf : Fin 4} {i : Nat} {x : Int64} (lv2 : List (Nat × Value)) (hn : i + 1 < nL) (hl : (i, Value.long x) :: lv.filter (fun q => !(q.1 == i) && (!(q.1 == i + 1) && !(q.1 + 1 == i && q.2.category == 2))) = lv2) (hi : (kf : Nat) = i) (hd : decode cc pc = .ok (.lstore_n kf, 1)) (kk : V p l e R s m args below meth c nL G A (S) (k) (n) Q (pc + 1) (lv2) (st)) : V p l e R s m args below meth c nL G A (S) (k) (n) Q (pc) (lv) (.long x :: st) := fun H locs ls hW hS hv => lv_lstore_n C.1 C.2.1 hd hi hv hn hl (fun ls hv => kk H locs ls hW hS hv)
theorem v_lstore (C : Cx p l e R s m args below meth c cc nL own G A) {i : Nat} {x : Int64} (lv2 : List (Nat × Value)) (hn : i + 1 < nL) (hl : (i, Value.long x) :: lv.filter (fun q => !(q.1 == i) && (!(q.1 == i + 1) && !(q.1 + 1 == i && q.2.category == 2))) = lv2) (hd : decode cc pc = .ok (.lstore i, 2)) (kk : V p l e R s m args below meth c nL G A (S) (k) (n) Q (pc + 2) (lv2) (st)) : V p l e R s m args below meth c nL G A (S) (k) (n) Q (pc) (lv) (.long x :: st) := fun H locs ls hW hS hv => lv_lstore C.1 C.2.1 hd hv hn hl (fun ls hv => kk H locs ls hW hS hv)
theorem v_dstore_n (C : Cx p l e R s m args below meth c cc nL own G A) {kf : Fin 4} {i : Nat} {x : UInt64} (lv2 : List (Nat × Value)) (hn : i + 1 < nL) (hl : (i, Value.double x) :: lv.filter (fun q => !(q.1 == i) && (!(q.1 == i + 1) && !(q.1 + 1 == i && q.2.category == 2))) = lv2) (hi : (kf : Nat) = i) (hd : decode cc pc = .ok (.dstore_n kf, 1)) (kk : V p l e R s m args below meth c nL G A (S) (k) (n) Q (pc + 1) (lv2) (st)) : V p l e R s m args below meth c nL G A (S) (k) (n) Q (pc) (lv) (.double x :: st) := fun H locs ls hW hS hv => lv_dstore_n C.1 C.2.1 hd hi hv hn hl (fun ls hv => kk H locs ls hW hS hv)
theorem v_dstore (C : Cx p l e R s m args below meth c cc nL own G A) {i : Nat} {x : UInt64} (lv2 : List (Nat × Value)) (hn : i + 1 < nL) (hl : (i, Value.double x) :: lv.filter (fun q => !(q.1 == i) && (!(q.1 == i + 1) && !(q.1 + 1 == i && q.2.category == 2))) = lv2) (hd : decode cc pc = .ok (.dstore i, 2)) (kk : V p l e R s m args below meth c nL G A (S) (k) (n) Q (pc + 2) (lv2) (st)) : V p l e R s m args below meth c nL G A (S) (k) (n) Q (pc) (lv) (.double x :: st) := fun H locs ls hW hS hv => lv_dstore C.1 C.2.1 hd hv hn hl (fun ls hv => kk H locs ls hW hS hv)
theorem v_fstore_n (C : Cx p l e R s m args below meth c cc nL own G A) {kf : Fin 4} {i : Nat} {x : UInt32} (lv2 : List (Nat × Value)) (hn : i < nL) (hl : (i, Value.float x) :: lv.filter (fun q => !(q.1 == i) && !(q.1 + 1 == i && q.2.category == 2)) = lv2) (hi : (kf : Nat) = i) (hd : decode cc pc = .ok (.fstore_n kf, 1)) (kk : V p l e R s m args below meth c nL G A (S) (k) (n) Q (pc + 1) (lv2) (st)) : V p l e R s m args below meth c nL G A (S) (k) (n) Q (pc) (lv) (.float x :: st) := fun H locs ls hW hS hv => lv_fstore_n C.1 C.2.1 hd hi hv hn hl (fun ls hv => kk H locs ls hW hS hv)
theorem v_fstore (C : Cx p l e R s m args below meth c cc nL own G A) {i : Nat} {x : UInt32} (lv2 : List (Nat × Value)) (hn : i < nL) (hl : (i, Value.float x) :: lv.filter (fun q => !(q.1 == i) && !(q.1 + 1 == i && q.2.category == 2)) = lv2) (hd : decode cc pc = .ok (.fstore i, 2)) (kk : V p l e R s m args below meth c nL G A (S) (k) (n) Q (pc + 2) (lv2) (st)) : V p l e R s m args below meth c nL G A (S) (k) (n) Q (pc) (lv) (.float x :: st) := fun H locs ls hW hS hv => lv_fstore C.1 C.2.1 hd hv hn hl (fun ls hv => kk H locs ls hW hS hv)
theorem v_astore_nN (C : Cx p l e R s m args below meth c cc nL own G A) {kf : Fin 4} {i : Nat} (lv2 : List (Nat × Value)) (hn : i < nL) (hl : (i, Value.null) :: lv.filter (fun q => !(q.1 == i) && !(q.1 + 1 == i && q.2.category == 2)) = lv2) (hi : (kf : Nat) = i) (hd : decode cc pc = .ok (.astore_n kf, 1)) (kk : V p l e R s m args below meth c nL G A (S) (k) (n) Q (pc + 1) (lv2) (st)) : V p l e R s m args below meth c nL G A (S) (k) (n) Q (pc) (lv) (.null :: st) := fun H locs ls hW hS hv => lv_astore_nN C.1 C.2.1 hd hi hv hn hl (fun ls hv => kk H locs ls hW hS hv)
theorem v_astoreN (C : Cx p l e R s m args below meth c cc nL own G A) {i : Nat} (lv2 : List (Nat × Value)) (hn : i < nL) (hl : (i, Value.null) :: lv.filter (fun q => !(q.1 == i) && !(q.1 + 1 == i && q.2.category == 2)) = lv2) (hd : decode cc pc = .ok (.astore i, 2)) (kk : V p l e R s m args below meth c nL G A (S) (k) (n) Q (pc + 2) (lv2) (st)) : V p l e R s m args below meth c nL G A (S) (k) (n) Q (pc) (lv) (.null :: st) := fun H locs ls hW hS hv => lv_astoreN C.1 C.2.1 hd hv hn hl (fun ls hv => kk H locs ls hW hS hv)
theorem v_iinc (C : Cx p l e R s m args below meth c cc nL own G A) {i : Nat} {z : Int} {x : Int32} (y : Int32) (j : Nat) (lv2 : List (Nat × Value)) (hj : lv[j]? = some (i, .int x)) (hy : x + Int32.ofInt z = y) (hn : i < nL) (hl : (i, Value.int y) :: lv.filter (fun q => !(q.1 == i) && !(q.1 + 1 == i && q.2.category == 2)) = lv2) (hd : decode cc pc = .ok (.iinc i z, 3)) (kk : V p l e R s m args below meth c nL G A (S) (k) (n) Q (pc + 3) (lv2) (st)) : V p l e R s m args below meth c nL G A (S) (k) (n) Q (pc) (lv) (st) := fun H locs ls hW hS hv => lv_iinc C.1 C.2.1 hd hv hj hy hn hl (fun ls hv => kk H locs ls hW hS hv)
theorem v_goto (C : Cx p l e R s m args below meth c cc nL own G A) {off : Int} (tgt : Nat) (ht : (pc : Int) + off = (tgt : Int)) (hd : decode cc pc = .ok (.goto off, 3)) (kk : V p l e R s m args below meth c nL G A (S) (k) (n) Q (tgt) (lv) (st)) : V p l e R s m args below meth c nL G A (S) (k) (n) Q (pc) (lv) (st) := fun H locs ls hW hS hv => lv_goto C.1 C.2.1 hd ht (kk H locs ls hW hS hv)
theorem v_if_eq (C : Cx p l e R s m args below meth c cc nL own G A) {x : Int32} {off : Int} (tgt : Nat) (ht : (pc : Int) + off = (tgt : Int)) (hd : decode cc pc = .ok (.ifCond .eq off, 3)) (kt : x = 0 → V p l e R s m args below meth c nL G A (S) (k) (n) Q (tgt) (lv) (st)) (kf : ¬ x = 0 → V p l e R s m args below meth c nL G A (S) (k) (n) Q (pc + 3) (lv) (st)) : V p l e R s m args below meth c nL G A (S) (k) (n) Q (pc) (lv) (.int x :: st) := fun H locs ls hW hS hv => lv_if_eq C.1 C.2.1 hd ht (fun h => kt h H locs ls hW hS hv) (fun h => kf h H locs ls hW hS hv)
theorem v_icmp_eq (C : Cx p l e R s m args below meth c cc nL own G A) {x y : Int32} {off : Int} (tgt : Nat) (ht : (pc : Int) + off = (tgt : Int)) (hd : decode cc pc = .ok (.if_icmp .eq off, 3)) (kt : x = y → V p l e R s m args below meth c nL G A (S) (k) (n) Q (tgt) (lv) (st)) (kf : ¬ x = y → V p l e R s m args below meth c nL G A (S) (k) (n) Q (pc + 3) (lv) (st)) : V p l e R s m args below meth c nL G A (S) (k) (n) Q (pc) (lv) (.int y :: .int x :: st) := fun H locs ls hW hS hv => lv_icmp_eq C.1 C.2.1 hd ht (fun h => kt h H locs ls hW hS hv) (fun h => kf h H locs ls hW hS hv)
theorem v_if_ne (C : Cx p l e R s m args below meth c cc nL own G A) {x : Int32} {off : Int} (tgt : Nat) (ht : (pc : Int) + off = (tgt : Int)) (hd : decode cc pc = .ok (.ifCond .ne off, 3)) (kt : ¬ x = 0 → V p l e R s m args below meth c nL G A (S) (k) (n) Q (tgt) (lv) (st)) (kf : x = 0 → V p l e R s m args below meth c nL G A (S) (k) (n) Q (pc + 3) (lv) (st)) : V p l e R s m args below meth c nL G A (S) (k) (n) Q (pc) (lv) (.int x :: st) := fun H locs ls hW hS hv => lv_if_ne C.1 C.2.1 hd ht (fun h => kt h H locs ls hW hS hv) (fun h => kf h H locs ls hW hS hv)
theorem v_icmp_ne (C : Cx p l e R s m args below meth c cc nL own G A) {x y : Int32} {off : Int} (tgt : Nat) (ht : (pc : Int) + off = (tgt : Int)) (hd : decode cc pc = .ok (.if_icmp .ne off, 3)) (kt : ¬ x = y → V p l e R s m args below meth c nL G A (S) (k) (n) Q (tgt) (lv) (st)) (kf : x = y → V p l e R s m args below meth c nL G A (S) (k) (n) Q (pc + 3) (lv) (st)) : V p l e R s m args below meth c nL G A (S) (k) (n) Q (pc) (lv) (.int y :: .int x :: st) := fun H locs ls hW hS hv => lv_icmp_ne C.1 C.2.1 hd ht (fun h => kt h H locs ls hW hS hv) (fun h => kf h H locs ls hW hS hv)
theorem v_if_lt (C : Cx p l e R s m args below meth c cc nL own G A) {x : Int32} {off : Int} (tgt : Nat) (ht : (pc : Int) + off = (tgt : Int)) (hd : decode cc pc = .ok (.ifCond .lt off, 3)) (kt : x < 0 → V p l e R s m args below meth c nL G A (S) (k) (n) Q (tgt) (lv) (st)) (kf : ¬ x < 0 → V p l e R s m args below meth c nL G A (S) (k) (n) Q (pc + 3) (lv) (st)) : V p l e R s m args below meth c nL G A (S) (k) (n) Q (pc) (lv) (.int x :: st) := fun H locs ls hW hS hv => lv_if_lt C.1 C.2.1 hd ht (fun h => kt h H locs ls hW hS hv) (fun h => kf h H locs ls hW hS hv)
theorem v_icmp_lt (C : Cx p l e R s m args below meth c cc nL own G A) {x y : Int32} {off : Int} (tgt : Nat) (ht : (pc : Int) + off = (tgt : Int)) (hd : decode cc pc = .ok (.if_icmp .lt off, 3)) (kt : x < y → V p l e R s m args below meth c nL G A (S) (k) (n) Q (tgt) (lv) (st)) (kf : ¬ x < y → V p l e R s m args below meth c nL G A (S) (k) (n) Q (pc + 3) (lv) (st)) : V p l e R s m args below meth c nL G A (S) (k) (n) Q (pc) (lv) (.int y :: .int x :: st) := fun H locs ls hW hS hv => lv_icmp_lt C.1 C.2.1 hd ht (fun h => kt h H locs ls hW hS hv) (fun h => kf h H locs ls hW hS hv)
theorem v_if_ge (C : Cx p l e R s m args below meth c cc nL own G A) {x : Int32} {off : Int} (tgt : Nat) (ht : (pc : Int) + off = (tgt : Int)) (hd : decode cc pc = .ok (.ifCond .ge off, 3)) (kt : 0 ≤ x → V p l e R s m args below meth c nL G A (S) (k) (n) Q (tgt) (lv) (st)) (kf : ¬ 0 ≤ x → V p l e R s m args below meth c nL G A (S) (k) (n) Q (pc + 3) (lv) (st)) : V p l e R s m args below meth c nL G A (S) (k) (n) Q (pc) (lv) (.int x :: st) := fun H locs ls hW hS hv => lv_if_ge C.1 C.2.1 hd ht (fun h => kt h H locs ls hW hS hv) (fun h => kf h H locs ls hW hS hv)
theorem v_icmp_ge (C : Cx p l e R s m args below meth c cc nL own G A) {x y : Int32} {off : Int} (tgt : Nat) (ht : (pc : Int) + off = (tgt : Int)) (hd : decode cc pc = .ok (.if_icmp .ge off, 3)) (kt : y ≤ x → V p l e R s m args below meth c nL G A (S) (k) (n) Q (tgt) (lv) (st)) (kf : ¬ y ≤ x → V p l e R s m args below meth c nL G A (S) (k) (n) Q (pc + 3) (lv) (st)) : V p l e R s m args below meth c nL G A (S) (k) (n) Q (pc) (lv) (.int y :: .int x :: st) := fun H locs ls hW hS hv => lv_icmp_ge C.1 C.2.1 hd ht (fun h => kt h H locs ls hW hS hv) (fun h => kf h H locs ls hW hS hv)
theorem v_if_gt (C : Cx p l e R s m args below meth c cc nL own G A) {x : Int32} {off : Int} (tgt : Nat) (ht : (pc : Int) + off = (tgt : Int)) (hd : decode cc pc = .ok (.ifCond .gt off, 3)) (kt : 0 < x → V p l e R s m args below meth c nL G A (S) (k) (n) Q (tgt) (lv) (st)) (kf : ¬ 0 < x → V p l e R s m args below meth c nL G A (S) (k) (n) Q (pc + 3) (lv) (st)) : V p l e R s m args below meth c nL G A (S) (k) (n) Q (pc) (lv) (.int x :: st) := fun H locs ls hW hS hv => lv_if_gt C.1 C.2.1 hd ht (fun h => kt h H locs ls hW hS hv) (fun h => kf h H locs ls hW hS hv)
theorem v_icmp_gt (C : Cx p l e R s m args below meth c cc nL own G A) {x y : Int32} {off : Int} (tgt : Nat) (ht : (pc : Int) + off = (tgt : Int)) (hd : decode cc pc = .ok (.if_icmp .gt off, 3)) (kt : y < x → V p l e R s m args below meth c nL G A (S) (k) (n) Q (tgt) (lv) (st)) (kf : ¬ y < x → V p l e R s m args below meth c nL G A (S) (k) (n) Q (pc + 3) (lv) (st)) : V p l e R s m args below meth c nL G A (S) (k) (n) Q (pc) (lv) (.int y :: .int x :: st) := fun H locs ls hW hS hv => lv_icmp_gt C.1 C.2.1 hd ht (fun h => kt h H locs ls hW hS hv) (fun h => kf h H locs ls hW hS hv)
theorem v_if_le (C : Cx p l e R s m args below meth c cc nL own G A) {x : Int32} {off : Int} (tgt : Nat) (ht : (pc : Int) + off = (tgt : Int)) (hd : decode cc pc = .ok (.ifCond .le off, 3)) (kt : x ≤ 0 → V p l e R s m args below meth c nL G A (S) (k) (n) Q (tgt) (lv) (st)) (kf : ¬ x ≤ 0 → V p l e R s m args below meth c nL G A (S) (k) (n) Q (pc + 3) (lv) (st)) : V p l e R s m args below meth c nL G A (S) (k) (n) Q (pc) (lv) (.int x :: st) := fun H locs ls hW hS hv => lv_if_le C.1 C.2.1 hd ht (fun h => kt h H locs ls hW hS hv) (fun h => kf h H locs ls hW hS hv)
theorem v_icmp_le (C : Cx p l e R s m args below meth c cc nL own G A) {x y : Int32} {off : Int} (tgt : Nat) (ht : (pc : Int) + off = (tgt : Int)) (hd : decode cc pc = .ok (.if_icmp .le off, 3)) (kt : x ≤ y → V p l e R s m args below meth c nL G A (S) (k) (n) Q (tgt) (lv) (st)) (kf : ¬ x ≤ y → V p l e R s m args below meth c nL G A (S) (k) (n) Q (pc + 3) (lv) (st)) : V p l e R s m args below meth c nL G A (S) (k) (n) Q (pc) (lv) (.int y :: .int x :: st) := fun H locs ls hW hS hv => lv_icmp_le C.1 C.2.1 hd ht (fun h => kt h H locs ls hW hS hv) (fun h => kf h H locs ls hW hS hv)
theorem v_ifnull (C : Cx p l e R s m args below meth c cc nL own G A) {x : Nat} {off : Int} (hd : decode cc pc = .ok (.ifnull off, 3)) (kk : V p l e R s m args below meth c nL G A (S) (k) (n) Q (pc + 3) (lv) (st)) : V p l e R s m args below meth c nL G A (S) (k) (n) Q (pc) (lv) (.ref x :: st) := fun H locs ls hW hS hv => lv_ifnull C.1 C.2.1 hd (kk H locs ls hW hS hv)
theorem v_ifnullN (C : Cx p l e R s m args below meth c cc nL own G A) {off : Int} (tgt : Nat) (ht : (pc : Int) + off = (tgt : Int)) (hd : decode cc pc = .ok (.ifnull off, 3)) (kk : V p l e R s m args below meth c nL G A (S) (k) (n) Q (tgt) (lv) (st)) : V p l e R s m args below meth c nL G A (S) (k) (n) Q (pc) (lv) (.null :: st) := fun H locs ls hW hS hv => lv_ifnullN C.1 C.2.1 hd ht (kk H locs ls hW hS hv)
theorem v_ifnonnull (C : Cx p l e R s m args below meth c cc nL own G A) {x : Nat} {off : Int} (tgt : Nat) (ht : (pc : Int) + off = (tgt : Int)) (hd : decode cc pc = .ok (.ifnonnull off, 3)) (kk : V p l e R s m args below meth c nL G A (S) (k) (n) Q (tgt) (lv) (st)) : V p l e R s m args below meth c nL G A (S) (k) (n) Q (pc) (lv) (.ref x :: st) := fun H locs ls hW hS hv => lv_ifnonnull C.1 C.2.1 hd ht (kk H locs ls hW hS hv)
theorem v_ifnonnullN (C : Cx p l e R s m args below meth c cc nL own G A) {off : Int} (hd : decode cc pc = .ok (.ifnonnull off, 3)) (kk : V p l e R s m args below meth c nL G A (S) (k) (n) Q (pc + 3) (lv) (st)) : V p l e R s m args below meth c nL G A (S) (k) (n) Q (pc) (lv) (.null :: st) := fun H locs ls hW hS hv => lv_ifnonnullN C.1 C.2.1 hd (kk H locs ls hW hS hv)
/-- a field of a kind, as a class' code links it -/
def FL (own : String) (idx kd j f tag : Nat) (ft : FieldType) (fin : Bool) : Prop :=
  ∃ (C : String) (T : u_T) (N : Nat) (ty0 : Nat → FieldType), vwCl[kd + 1]? = some (C, T, N) ∧ j < N ∧ (∀ w ∈ u_ws C T N, w ∈ wsG) ∧ Cond.fieldLink own idx (T j).1 (T j).2.1 (T j).2.2.1 ∈ wsG ∧ (fds kd)[j]? = some (tag, f) ∧ 0 < kd ∧ kd < 7 ∧ (T j).2.2.2 = fin ∧ parseFieldDescriptor (T j).2.2.1 = some ft ∧ (T j).1 = C ∧ (∀ k, k < N → parseFieldDescriptor (T k).2.2.1 = some (ty0 k)) ∧ (∀ a, a < N → ∀ b, b < N → a ≠ b → (T a).2.1 ≠ (T b).2.1)
theorem v_getI (C : Cx p l e R s m args below meth c cc nL own G A) {idx kd j f : Nat} {ft : FieldType} {fin : Bool} {a : Nat} (x : Int32) (hF : FL own idx kd j f 0 ft fin) (hk : hK S a = kd) (hx : hI S f a = x) (hd : decode cc pc = .ok (.getfield idx, 3)) (kk : V p l e R s m args below meth c nL G A (S) (k) (n) Q (pc + 3) (lv) (.int x :: st)) : V p l e R s m args below meth c nL G A (S) (k) (n) Q (pc) (lv) (.ref a :: st) := by
  intro H locs ls hW hS hv
  obtain ⟨C1, T, N, ty0, hc, hj, hin, hl, hf, h0, h7, -, -, -, -, -⟩ := hF
  obtain ⟨ws, hP, hD, hL⟩ := id hW
  obtain ⟨q0, hq⟩ := (hL a _).mp (cE_obj hk h0 h7)
  refine va_get C.1 C.2.1 C.2.2.2.2.1 hin C.2.2.2.1 C.2.2.2.2.2.2.1.1 hP q0 hq hc j hj (C.2.2.2.2.1 _ hl) (fun _ h => h) (v := .int x) ?_ hd (kk H locs ls hW hS hv)
  rw [List.getElem?_map, hf]
  simp [fv, hx, va_rf]
theorem v_getJ (C : Cx p l e R s m args below meth c cc nL own G A) {idx kd j f : Nat} {ft : FieldType} {fin : Bool} {a : Nat} (x : Int64) (hF : FL own idx kd j f 1 ft fin) (hk : hK S a = kd) (hx : hJ S f a = x) (hd : decode cc pc = .ok (.getfield idx, 3)) (kk : V p l e R s m args below meth c nL G A (S) (k) (n) Q (pc + 3) (lv) (.long x :: st)) : V p l e R s m args below meth c nL G A (S) (k) (n) Q (pc) (lv) (.ref a :: st) := by
  intro H locs ls hW hS hv
  obtain ⟨C1, T, N, ty0, hc, hj, hin, hl, hf, h0, h7, -, -, -, -, -⟩ := hF
  obtain ⟨ws, hP, hD, hL⟩ := id hW
  obtain ⟨q0, hq⟩ := (hL a _).mp (cE_obj hk h0 h7)
  refine va_get C.1 C.2.1 C.2.2.2.2.1 hin C.2.2.2.1 C.2.2.2.2.2.2.1.1 hP q0 hq hc j hj (C.2.2.2.2.1 _ hl) (fun _ h => h) (v := .long x) ?_ hd (kk H locs ls hW hS hv)
  rw [List.getElem?_map, hf]
  simp [fv, hx, va_rf]
theorem v_getR (C : Cx p l e R s m args below meth c cc nL own G A) {idx kd j f : Nat} {ft : FieldType} {fin : Bool} {a : Nat} (x : Nat) (hF : FL own idx kd j f 2 ft fin) (hk : hK S a = kd) (hx : hR S f a = some x) (hd : decode cc pc = .ok (.getfield idx, 3)) (kk : V p l e R s m args below meth c nL G A (S) (k) (n) Q (pc + 3) (lv) (.ref x :: st)) : V p l e R s m args below meth c nL G A (S) (k) (n) Q (pc) (lv) (.ref a :: st) := by
  intro H locs ls hW hS hv
  obtain ⟨C1, T, N, ty0, hc, hj, hin, hl, hf, h0, h7, -, -, -, -, -⟩ := hF
  obtain ⟨ws, hP, hD, hL⟩ := id hW
  obtain ⟨q0, hq⟩ := (hL a _).mp (cE_obj hk h0 h7)
  refine va_get C.1 C.2.1 C.2.2.2.2.1 hin C.2.2.2.1 C.2.2.2.2.2.2.1.1 hP q0 hq hc j hj (C.2.2.2.2.1 _ hl) (fun _ h => h) (v := .ref x) ?_ hd (kk H locs ls hW hS hv)
  rw [List.getElem?_map, hf]
  simp [fv, hx, va_rf]
theorem v_getRn (C : Cx p l e R s m args below meth c cc nL own G A) {idx kd j f : Nat} {ft : FieldType} {fin : Bool} {a : Nat} (hF : FL own idx kd j f 2 ft fin) (hk : hK S a = kd) (hx : hR S f a = none) (hd : decode cc pc = .ok (.getfield idx, 3)) (kk : V p l e R s m args below meth c nL G A (S) (k) (n) Q (pc + 3) (lv) (.null :: st)) : V p l e R s m args below meth c nL G A (S) (k) (n) Q (pc) (lv) (.ref a :: st) := by
  intro H locs ls hW hS hv
  obtain ⟨C1, T, N, ty0, hc, hj, hin, hl, hf, h0, h7, -, -, -, -, -⟩ := hF
  obtain ⟨ws, hP, hD, hL⟩ := id hW
  obtain ⟨q0, hq⟩ := (hL a _).mp (cE_obj hk h0 h7)
  refine va_get C.1 C.2.1 C.2.2.2.2.1 hin C.2.2.2.1 C.2.2.2.2.2.2.1.1 hP q0 hq hc j hj (C.2.2.2.2.1 _ hl) (fun _ h => h) (v := .null) ?_ hd (kk H locs ls hW hS hv)
  rw [List.getElem?_map, hf]
  simp [fv, hx, va_rf]
theorem v_putI (C : Cx p l e R s m args below meth c cc nL own G A) {idx kd j f : Nat} {ft : FieldType} {a : Nat} {x : Int32} (hF : FL own idx kd j f 0 ft false) (hk : hK S a = kd) (hn : narrow ft (.int x) = .int x) (hfit : fits ft (.int x) = true) (hd : decode cc pc = .ok (.putfield idx, 3)) (kk : V p l e R s m args below meth c nL G A (sI S f a x) (k) (n) Q (pc + 3) (lv) (st)) : V p l e R s m args below meth c nL G A (S) (k) (n) Q (pc) (lv) (.int x :: .ref a :: st) := by
  intro H locs ls hW hS hv
  obtain ⟨C1, T, N, ty0, hc, hj, hin, hl, hf, h0, h7, hfin, hpd, hdc, hty, hnm⟩ := hF
  obtain ⟨ws, hP, hD, hL⟩ := id hW
  obtain ⟨q0, hq⟩ := (hL a _).mp (cE_obj hk h0 h7)
  have hjl : j < ((fds kd).map (fv S a)).length := by simpa using (List.getElem?_eq_some_iff.mp hf).1
  refine va_put C.1 C.2.1 C.2.2.2.2.1 hin ty0 hty hnm C.2.2.2.1 C.2.2.2.2.2.2.1.1 hP hD hS q0 hq hc j hj (C.2.2.2.2.1 _ hl) (fun _ h => h) hfin  hpd hn hfit hjl hd (fun H1 locs1 hP1 hD1 hS1 => kk H1 locs1 ls ⟨_, hP1, hD1, wL_congr (wL_set hD hL hq) (fun b => ?_)⟩ hS1 hv)
  exact cE_sI hk h0 h7 hf b
theorem v_putIF (C : Cx p l e R s m args below meth c cc nL own G A) {idx kd j f : Nat} {ft : FieldType} {a : Nat} {x : Int32} (hF : FL own idx kd j f 0 ft true) (hk : hK S a = kd) (hin2 : meth.name = "<init>") (hoc : (vwCl[kd + 1]?).map Prod.fst = some own) (hn : narrow ft (.int x) = .int x) (hfit : fits ft (.int x) = true) (hd : decode cc pc = .ok (.putfield idx, 3)) (kk : V p l e R s m args below meth c nL G A (sI S f a x) (k) (n) Q (pc + 3) (lv) (st)) : V p l e R s m args below meth c nL G A (S) (k) (n) Q (pc) (lv) (.int x :: .ref a :: st) := by
  intro H locs ls hW hS hv
  obtain ⟨C1, T, N, ty0, hc, hj, hin, hl, hf, h0, h7, hfin, hpd, hdc, hty, hnm⟩ := hF
  obtain ⟨ws, hP, hD, hL⟩ := id hW
  obtain ⟨q0, hq⟩ := (hL a _).mp (cE_obj hk h0 h7)
  have hjl : j < ((fds kd).map (fv S a)).length := by simpa using (List.getElem?_eq_some_iff.mp hf).1
  refine va_putF C.1 C.2.1 C.2.2.2.2.1 hin ty0 hty hnm C.2.2.2.1 C.2.2.2.2.2.2.1.1 hP hD hS q0 hq hc j hj (C.2.2.2.2.1 _ hl) (fun _ h => h) hfin hin2 (by rw [hc] at hoc; rw [hdc]; exact Option.some.inj hoc) hpd hn hfit hjl hd (fun H1 locs1 hP1 hD1 hS1 => kk H1 locs1 ls ⟨_, hP1, hD1, wL_congr (wL_set hD hL hq) (fun b => ?_)⟩ hS1 hv)
  exact cE_sI hk h0 h7 hf b
theorem v_putJ (C : Cx p l e R s m args below meth c cc nL own G A) {idx kd j f : Nat} {ft : FieldType} {a : Nat} {x : Int64} (hF : FL own idx kd j f 1 ft false) (hk : hK S a = kd) (hn : narrow ft (.long x) = .long x) (hfit : fits ft (.long x) = true) (hd : decode cc pc = .ok (.putfield idx, 3)) (kk : V p l e R s m args below meth c nL G A (sJ S f a x) (k) (n) Q (pc + 3) (lv) (st)) : V p l e R s m args below meth c nL G A (S) (k) (n) Q (pc) (lv) (.long x :: .ref a :: st) := by
  intro H locs ls hW hS hv
  obtain ⟨C1, T, N, ty0, hc, hj, hin, hl, hf, h0, h7, hfin, hpd, hdc, hty, hnm⟩ := hF
  obtain ⟨ws, hP, hD, hL⟩ := id hW
  obtain ⟨q0, hq⟩ := (hL a _).mp (cE_obj hk h0 h7)
  have hjl : j < ((fds kd).map (fv S a)).length := by simpa using (List.getElem?_eq_some_iff.mp hf).1
  refine va_put C.1 C.2.1 C.2.2.2.2.1 hin ty0 hty hnm C.2.2.2.1 C.2.2.2.2.2.2.1.1 hP hD hS q0 hq hc j hj (C.2.2.2.2.1 _ hl) (fun _ h => h) hfin  hpd hn hfit hjl hd (fun H1 locs1 hP1 hD1 hS1 => kk H1 locs1 ls ⟨_, hP1, hD1, wL_congr (wL_set hD hL hq) (fun b => ?_)⟩ hS1 hv)
  exact cE_sJ hk h0 h7 hf b
theorem v_putJF (C : Cx p l e R s m args below meth c cc nL own G A) {idx kd j f : Nat} {ft : FieldType} {a : Nat} {x : Int64} (hF : FL own idx kd j f 1 ft true) (hk : hK S a = kd) (hin2 : meth.name = "<init>") (hoc : (vwCl[kd + 1]?).map Prod.fst = some own) (hn : narrow ft (.long x) = .long x) (hfit : fits ft (.long x) = true) (hd : decode cc pc = .ok (.putfield idx, 3)) (kk : V p l e R s m args below meth c nL G A (sJ S f a x) (k) (n) Q (pc + 3) (lv) (st)) : V p l e R s m args below meth c nL G A (S) (k) (n) Q (pc) (lv) (.long x :: .ref a :: st) := by
  intro H locs ls hW hS hv
  obtain ⟨C1, T, N, ty0, hc, hj, hin, hl, hf, h0, h7, hfin, hpd, hdc, hty, hnm⟩ := hF
  obtain ⟨ws, hP, hD, hL⟩ := id hW
  obtain ⟨q0, hq⟩ := (hL a _).mp (cE_obj hk h0 h7)
  have hjl : j < ((fds kd).map (fv S a)).length := by simpa using (List.getElem?_eq_some_iff.mp hf).1
  refine va_putF C.1 C.2.1 C.2.2.2.2.1 hin ty0 hty hnm C.2.2.2.1 C.2.2.2.2.2.2.1.1 hP hD hS q0 hq hc j hj (C.2.2.2.2.1 _ hl) (fun _ h => h) hfin hin2 (by rw [hc] at hoc; rw [hdc]; exact Option.some.inj hoc) hpd hn hfit hjl hd (fun H1 locs1 hP1 hD1 hS1 => kk H1 locs1 ls ⟨_, hP1, hD1, wL_congr (wL_set hD hL hq) (fun b => ?_)⟩ hS1 hv)
  exact cE_sJ hk h0 h7 hf b
theorem v_putR (C : Cx p l e R s m args below meth c cc nL own G A) {idx kd j f : Nat} {ft : FieldType} {a : Nat} {x : Nat} (hF : FL own idx kd j f 2 ft false) (hk : hK S a = kd) (hn : narrow ft (.ref x) = .ref x) (hfit : fits ft (.ref x) = true) (hd : decode cc pc = .ok (.putfield idx, 3)) (kk : V p l e R s m args below meth c nL G A (sR S f a (some x)) (k) (n) Q (pc + 3) (lv) (st)) : V p l e R s m args below meth c nL G A (S) (k) (n) Q (pc) (lv) (.ref x :: .ref a :: st) := by
  intro H locs ls hW hS hv
  obtain ⟨C1, T, N, ty0, hc, hj, hin, hl, hf, h0, h7, hfin, hpd, hdc, hty, hnm⟩ := hF
  obtain ⟨ws, hP, hD, hL⟩ := id hW
  obtain ⟨q0, hq⟩ := (hL a _).mp (cE_obj hk h0 h7)
  have hjl : j < ((fds kd).map (fv S a)).length := by simpa using (List.getElem?_eq_some_iff.mp hf).1
  refine va_put C.1 C.2.1 C.2.2.2.2.1 hin ty0 hty hnm C.2.2.2.1 C.2.2.2.2.2.2.1.1 hP hD hS q0 hq hc j hj (C.2.2.2.2.1 _ hl) (fun _ h => h) hfin  hpd hn hfit hjl hd (fun H1 locs1 hP1 hD1 hS1 => kk H1 locs1 ls ⟨_, hP1, hD1, wL_congr (wL_set hD hL hq) (fun b => ?_)⟩ hS1 hv)
  exact cE_sR hk h0 h7 hf b
theorem v_putRF (C : Cx p l e R s m args below meth c cc nL own G A) {idx kd j f : Nat} {ft : FieldType} {a : Nat} {x : Nat} (hF : FL own idx kd j f 2 ft true) (hk : hK S a = kd) (hin2 : meth.name = "<init>") (hoc : (vwCl[kd + 1]?).map Prod.fst = some own) (hn : narrow ft (.ref x) = .ref x) (hfit : fits ft (.ref x) = true) (hd : decode cc pc = .ok (.putfield idx, 3)) (kk : V p l e R s m args below meth c nL G A (sR S f a (some x)) (k) (n) Q (pc + 3) (lv) (st)) : V p l e R s m args below meth c nL G A (S) (k) (n) Q (pc) (lv) (.ref x :: .ref a :: st) := by
  intro H locs ls hW hS hv
  obtain ⟨C1, T, N, ty0, hc, hj, hin, hl, hf, h0, h7, hfin, hpd, hdc, hty, hnm⟩ := hF
  obtain ⟨ws, hP, hD, hL⟩ := id hW
  obtain ⟨q0, hq⟩ := (hL a _).mp (cE_obj hk h0 h7)
  have hjl : j < ((fds kd).map (fv S a)).length := by simpa using (List.getElem?_eq_some_iff.mp hf).1
  refine va_putF C.1 C.2.1 C.2.2.2.2.1 hin ty0 hty hnm C.2.2.2.1 C.2.2.2.2.2.2.1.1 hP hD hS q0 hq hc j hj (C.2.2.2.2.1 _ hl) (fun _ h => h) hfin hin2 (by rw [hc] at hoc; rw [hdc]; exact Option.some.inj hoc) hpd hn hfit hjl hd (fun H1 locs1 hP1 hD1 hS1 => kk H1 locs1 ls ⟨_, hP1, hD1, wL_congr (wL_set hD hL hq) (fun b => ?_)⟩ hS1 hv)
  exact cE_sR hk h0 h7 hf b
theorem cA_i {S : HS} {a : Nat} (h : hK S a < 12) : cA S a = (hN S a, .inl (aI S a)) := by unfold cA; rw [if_pos h]
theorem cA_j {S : HS} {a : Nat} (h : hK S a = 12) : cA S a = (hN S a, .inr (.inl (aJ S a))) := by unfold cA; rw [h]; rfl
theorem cA_r {S : HS} {a : Nat} (h : 12 < hK S a) (h2 : hK S a < 18) : cA S a = (hN S a, .inr (.inr (.inr (.inr (aR S a))))) := by unfold cA; rw [if_neg (by omega), if_neg (by omega), if_neg (by omega)]
theorem cA_d {S : HS} {a : Nat} (h : hK S a = 18) : cA S a = (hN S a, .inr (.inr (.inr (.inl (aD S a))))) := by unfold cA; rw [h]; rfl
theorem v_alen (C : Cx p l e R s m args below meth c cc nL own G A) {a : Nat} (x : Int32) (h1 : 10 ≤ hK S a) (h2 : hK S a ≤ 18) (hx : Int32.ofNat (hN S a) = x) (hd : decode cc pc = .ok (.arraylength, 1)) (kk : V p l e R s m args below meth c nL G A (S) (k) (n) Q (pc + 1) (lv) (.int x :: st)) : V p l e R s m args below meth c nL G A (S) (k) (n) Q (pc) (lv) (.ref a :: st) := by
  intro H locs ls hW hS hv
  obtain ⟨ws, hP, hD, hL⟩ := id hW
  obtain ⟨q0, hq⟩ := (hL a _).mp (cE_arr rfl h1)
  exact va_alen C.1 C.2.1 C.2.2.2.2.2.2.1.1 hP q0 (hK S a - 10) hq (gK_ty h1 h2) hx hd (kk H locs ls hW hS hv)
theorem v_iald (C : Cx p l e R s m args below meth c cc nL own G A) {a : Nat} {i : Int32} (x : Int32) (hk : hK S a = 10) (hi : vp_in i (hN S a)) (hx : aI S a i.toNatClampNeg = x) (hd : decode cc pc = .ok (.iaload, 1)) (kk : V p l e R s m args below meth c nL G A (S) (k) (n) Q (pc + 1) (lv) (.int x :: st)) : V p l e R s m args below meth c nL G A (S) (k) (n) Q (pc) (lv) (.int i :: .ref a :: st) := by
  intro H locs ls hW hS hv
  obtain ⟨ws, hP, hD, hL⟩ := id hW
  obtain ⟨q0, hq⟩ := (hL a _).mp (cE_arr hk (by decide))
  rw [cA_i (by omega)] at hq
  subst hx
  exact va_iald C.1 C.2.1 C.2.2.2.2.2.2.1.1 hP q0 0 hq (gK_ty (kd := 10) (by decide) (by decide)) hi hd (kk H locs ls hW hS hv)
theorem v_cald (C : Cx p l e R s m args below meth c cc nL own G A) {a : Nat} {i : Int32} (x : Int32) (hk : hK S a = 11) (hi : vp_in i (hN S a)) (hx : aI S a i.toNatClampNeg = x) (hd : decode cc pc = .ok (.caload, 1)) (kk : V p l e R s m args below meth c nL G A (S) (k) (n) Q (pc + 1) (lv) (.int x :: st)) : V p l e R s m args below meth c nL G A (S) (k) (n) Q (pc) (lv) (.int i :: .ref a :: st) := by
  intro H locs ls hW hS hv
  obtain ⟨ws, hP, hD, hL⟩ := id hW
  obtain ⟨q0, hq⟩ := (hL a _).mp (cE_arr hk (by decide))
  rw [cA_i (by omega)] at hq
  subst hx
  exact va_cald C.1 C.2.1 C.2.2.2.2.2.2.1.1 hP q0 1 hq (gK_ty (kd := 11) (by decide) (by decide)) hi hd (kk H locs ls hW hS hv)
theorem v_lald (C : Cx p l e R s m args below meth c cc nL own G A) {a : Nat} {i : Int32} (x : Int64) (hk : hK S a = 12) (hi : vp_in i (hN S a)) (hx : aJ S a i.toNatClampNeg = x) (hd : decode cc pc = .ok (.laload, 1)) (kk : V p l e R s m args below meth c nL G A (S) (k) (n) Q (pc + 1) (lv) (.long x :: st)) : V p l e R s m args below meth c nL G A (S) (k) (n) Q (pc) (lv) (.int i :: .ref a :: st) := by
  intro H locs ls hW hS hv
  obtain ⟨ws, hP, hD, hL⟩ := id hW
  obtain ⟨q0, hq⟩ := (hL a _).mp (cE_arr hk (by decide))
  rw [cA_j (by omega)] at hq
  subst hx
  exact va_lald C.1 C.2.1 C.2.2.2.2.2.2.1.1 hP q0 2 hq (gK_ty (kd := 12) (by decide) (by decide)) hi hd (kk H locs ls hW hS hv)
theorem v_dald (C : Cx p l e R s m args below meth c cc nL own G A) {a : Nat} {i : Int32} (x : UInt64) (hk : hK S a = 18) (hi : vp_in i (hN S a)) (hx : aD S a i.toNatClampNeg = x) (hd : decode cc pc = .ok (.daload, 1)) (kk : V p l e R s m args below meth c nL G A (S) (k) (n) Q (pc + 1) (lv) (.double x :: st)) : V p l e R s m args below meth c nL G A (S) (k) (n) Q (pc) (lv) (.int i :: .ref a :: st) := by
  intro H locs ls hW hS hv
  obtain ⟨ws, hP, hD, hL⟩ := id hW
  obtain ⟨q0, hq⟩ := (hL a _).mp (cE_arr hk (by decide))
  rw [cA_d hk] at hq
  subst hx
  exact va_dald C.1 C.2.1 C.2.2.2.2.2.2.1.1 hP q0 8 hq (gK_ty (kd := 18) (by decide) (by decide)) hi hd (kk H locs ls hW hS hv)
theorem v_aald (C : Cx p l e R s m args below meth c cc nL own G A) {a : Nat} {i : Int32} (x : Option Nat) (h1 : 12 < hK S a) (h2 : hK S a < 18) (hi : vp_in i (hN S a)) (hx : aR S a i.toNatClampNeg = x) (hd : decode cc pc = .ok (.aaload, 1)) (kk : V p l e R s m args below meth c nL G A (S) (k) (n) Q (pc + 1) (lv) (va_rf x :: st)) : V p l e R s m args below meth c nL G A (S) (k) (n) Q (pc) (lv) (.int i :: .ref a :: st) := by
  intro H locs ls hW hS hv
  have hat := hW.at (cE_arr (G := G) (S := S) (a := a) rfl (by omega))
  rw [cA_r h1 h2] at hat
  have hlt : i.toNatClampNeg < hN S a := Nat.not_le.mp fun q => hi (Or.inr q)
  have hty := (C.2.2.2.2.2.2.1.1.2 _ _ (gK_ty (G := G) (kd := hK S a) (by omega) (by omega))).1
  subst hx
  refine W.aald (ty := tyA (hK S a)) (v := va_rf (aR S a i.toNatClampNeg)) C.1 C.2.1 hat (hty (hN S a) (fun j => va_rf (aR S a j))) ?_ (fun q => by cases q) (by show ¬ (i < 0 ∨ (arrV _ _ _).slots.size ≤ _); rw [arrV_size]; exact hi) (by show (arrV _ _ _).slots[_]? = _; rw [arrV_read _ _ hlt]) rfl rfl hd (kk H locs ls hW hS hv)
  have hc : hK S a = 13 ∨ hK S a = 14 ∨ hK S a = 15 ∨ hK S a = 16 ∨ hK S a = 17 := by omega
  rcases hc with h | h | h | h | h <;> rw [h] <;> rfl
theorem v_iast (C : Cx p l e R s m args below meth c cc nL own G A) {a : Nat} {i : Int32} {x : Int32} (hk : hK S a = 10) (hi : vp_in i (hN S a)) (hd : decode cc pc = .ok (.iastore, 1)) (kk : V p l e R s m args below meth c nL G A (tI S a i.toNatClampNeg x) (k) (n) Q (pc + 1) (lv) (st)) : V p l e R s m args below meth c nL G A (S) (k) (n) Q (pc) (lv) (.int x :: .int i :: .ref a :: st) := by
  intro H locs ls hW hS hv
  obtain ⟨ws, hP, hD, hL⟩ := id hW
  obtain ⟨q0, hq⟩ := (hL a _).mp (cE_arr hk (by decide))
  rw [cA_i (by omega)] at hq
  refine va_iast C.1 C.2.1 C.2.2.2.2.2.2.1.1 hP hD hS q0 0 hq (gK_ty (kd := 10) (by decide) (by decide)) hi hd (fun H1 locs1 hP1 hD1 hS1 => kk H1 locs1 ls ⟨_, hP1, hD1, wL_congr (wL_set hD hL hq) (fun b => ?_)⟩ hS1 hv)
  rw [cE_tI (by omega) b, hk, cA_i (S := tI S a i.toNatClampNeg x) (show hK S a < 12 by omega)]
  have e : aI (tI S a i.toNatClampNeg x) a = upd (aI S a) i.toNatClampNeg (x) := by
    funext z
    simp [aI, tI, u2, upd]
  rw [e]
  rfl
theorem v_last (C : Cx p l e R s m args below meth c cc nL own G A) {a : Nat} {i : Int32} {x : Int64} (hk : hK S a = 12) (hi : vp_in i (hN S a)) (hd : decode cc pc = .ok (.lastore, 1)) (kk : V p l e R s m args below meth c nL G A (tJ S a i.toNatClampNeg x) (k) (n) Q (pc + 1) (lv) (st)) : V p l e R s m args below meth c nL G A (S) (k) (n) Q (pc) (lv) (.long x :: .int i :: .ref a :: st) := by
  intro H locs ls hW hS hv
  obtain ⟨ws, hP, hD, hL⟩ := id hW
  obtain ⟨q0, hq⟩ := (hL a _).mp (cE_arr hk (by decide))
  rw [cA_j (by omega)] at hq
  refine va_last C.1 C.2.1 C.2.2.2.2.2.2.1.1 hP hD hS q0 2 hq (gK_ty (kd := 12) (by decide) (by decide)) hi hd (fun H1 locs1 hP1 hD1 hS1 => kk H1 locs1 ls ⟨_, hP1, hD1, wL_congr (wL_set hD hL hq) (fun b => ?_)⟩ hS1 hv)
  rw [cE_tJ (by omega) b, hk, cA_j (S := tJ S a i.toNatClampNeg x) (show hK S a = 12 from hk)]
  have e : aJ (tJ S a i.toNatClampNeg x) a = vp_updL (aJ S a) i.toNatClampNeg (x) := by
    funext z
    simp [aJ, tJ, u2, vp_updL]
  rw [e]
  rfl
theorem v_dast (C : Cx p l e R s m args below meth c cc nL own G A) {a : Nat} {i : Int32} {x : UInt64} (hk : hK S a = 18) (hi : vp_in i (hN S a)) (hd : decode cc pc = .ok (.dastore, 1)) (kk : V p l e R s m args below meth c nL G A (tD S a i.toNatClampNeg x) (k) (n) Q (pc + 1) (lv) (st)) : V p l e R s m args below meth c nL G A (S) (k) (n) Q (pc) (lv) (.double x :: .int i :: .ref a :: st) := by
  intro H locs ls hW hS hv
  obtain ⟨ws, hP, hD, hL⟩ := id hW
  obtain ⟨q0, hq⟩ := (hL a _).mp (cE_arr hk (by decide))
  rw [cA_d (by omega)] at hq
  refine va_dast C.1 C.2.1 C.2.2.2.2.2.2.1.1 hP hD hS q0 8 hq (gK_ty (kd := 18) (by decide) (by decide)) hi hd (fun H1 locs1 hP1 hD1 hS1 => kk H1 locs1 ls ⟨_, hP1, hD1, wL_congr (wL_set hD hL hq) (fun b => ?_)⟩ hS1 hv)
  rw [cE_tD (by omega) b, hk, cA_d (S := tD S a i.toNatClampNeg x) (show hK S a = 18 from hk)]
  have e : aD (tD S a i.toNatClampNeg x) a = vf_upd (aD S a) i.toNatClampNeg (x) := by
    funext z
    simp [aD, tD, u2, vf_upd]
  rw [e]
  rfl
theorem v_cast (C : Cx p l e R s m args below meth c cc nL own G A) {a : Nat} {i : Int32} {x : Int32} (hk : hK S a = 11) (hi : vp_in i (hN S a)) (hc : vp_nar .char x = x) (hd : decode cc pc = .ok (.castore, 1)) (kk : V p l e R s m args below meth c nL G A (tI S a i.toNatClampNeg x) (k) (n) Q (pc + 1) (lv) (st)) : V p l e R s m args below meth c nL G A (S) (k) (n) Q (pc) (lv) (.int x :: .int i :: .ref a :: st) := by
  intro H locs ls hW hS hv
  obtain ⟨ws, hP, hD, hL⟩ := id hW
  obtain ⟨q0, hq⟩ := (hL a _).mp (cE_arr hk (by decide))
  rw [cA_i (by omega)] at hq
  refine va_cast C.1 C.2.1 C.2.2.2.2.2.2.1.1 hP hD hS q0 1 hq (gK_ty (kd := 11) (by decide) (by decide)) hi hd (fun H1 locs1 hP1 hD1 hS1 => kk H1 locs1 ls ⟨_, hP1, hD1, wL_congr (wL_set hD hL hq) (fun b => ?_)⟩ hS1 hv)
  rw [cE_tI (by omega) b, hk, cA_i (S := tI S a i.toNatClampNeg x) (show hK S a < 12 by omega)]
  have e : aI (tI S a i.toNatClampNeg x) a = upd (aI S a) i.toNatClampNeg (vp_nar .char x) := by
    funext z
    simp [aI, tI, u2, upd, hc]
  rw [e]
  rfl
theorem v_aast (C : Cx p l e R s m args below meth c cc nL own G A) {a b kd ke : Nat} {i : Int32} (hk : hK S a = kd) (hb : hK S b = ke) (hp : (kd = 13 ∧ ke = 1) ∨ (kd = 14 ∧ ke = 3) ∨ (kd = 15 ∧ ke = 4)) (hi : vp_in i (hN S a)) (hd : decode cc pc = .ok (.aastore, 1)) (kk : V p l e R s m args below meth c nL G A (tR S a i.toNatClampNeg (some b)) (k) (n) Q (pc + 1) (lv) (st)) : V p l e R s m args below meth c nL G A (S) (k) (n) Q (pc) (lv) (.ref b :: .int i :: .ref a :: st) := by
  intro H locs ls hW hS hv
  obtain ⟨ws, hP, hD, hL⟩ := id hW
  obtain ⟨q0, hq⟩ := (hL a _).mp (cE_arr hk (by omega))
  obtain ⟨q1, hq1⟩ := (hL b _).mp (cE_obj hb (by omega) (by omega))
  rw [cA_r (by omega) (by omega)] at hq
  have fin : ∀ (H1 : Heap) (locs1 : List Loc), va_P G.1 vwCl (ws.set q0 (a, .inl (G.2.1 kd, hN S a, .inr (.inr (.inr (.inr (va_up (aR S a) i.toNatClampNeg (some b)))))))) H1 → va_D A (ws.set q0 (a, .inl (G.2.1 kd, hN S a, .inr (.inr (.inr (.inr (va_up (aR S a) i.toNatClampNeg (some b)))))))) → va_S A s.heap H1 locs1 → W p l e R s m args below meth c H1 locs1 k n Q (F0 m (pc + 1) ls st) := by
    intro H1 locs1 hP1 hD1 hS1
    refine kk H1 locs1 ls ⟨_, hP1, hD1, wL_congr (wL_set hD hL hq) (fun b0 => ?_)⟩ hS1 hv
    rw [cE_tR (by omega) b0, hk, cA_r (S := tR S a i.toNatClampNeg (some b)) (show 12 < hK S a by omega) (show hK S a < 18 by omega)]
    have e : aR (tR S a i.toNatClampNeg (some b)) a = va_up (aR S a) i.toNatClampNeg (some b) := by
      funext z
      simp [aR, tR, u2, va_up]
    rw [e]
    rfl
  rcases hp with ⟨rfl, rfl⟩ | ⟨rfl, rfl⟩ | ⟨rfl, rfl⟩
  · exact va_astq C.1 C.2.1 C.2.2.2.2.2.2.1.1 hP hD hS q0 3 q1 2 hq (r := (RX0, TX0, 5)) (gK_ty (kd := 13) (by decide) (by decide)) hq1 rfl hi hd fin
  · exact va_astq C.1 C.2.1 C.2.2.2.2.2.2.1.1 hP hD hS q0 4 q1 4 hq (r := (RX2, TX2, 3)) (gK_ty (kd := 14) (by decide) (by decide)) hq1 rfl hi hd fin
  · exact va_astq C.1 C.2.1 C.2.2.2.2.2.2.1.1 hP hD hS q0 5 q1 5 hq (r := (RX3, TX3, 12)) (gK_ty (kd := 15) (by decide) (by decide)) hq1 rfl hi hd fin
theorem v_aastC (C : Cx p l e R s m args below meth c cc nL own G A) {a b : Nat} {i : Int32} (hk : hK S a = 17) (hb : hK S b = 11) (hi : vp_in i (hN S a)) (hd : decode cc pc = .ok (.aastore, 1)) (kk : V p l e R s m args below meth c nL G A (tR S a i.toNatClampNeg (some b)) (k) (n) Q (pc + 1) (lv) (st)) : V p l e R s m args below meth c nL G A (S) (k) (n) Q (pc) (lv) (.ref b :: .int i :: .ref a :: st) := by
  intro H locs ls hW hS hv
  obtain ⟨ws, hP, hD, hL⟩ := id hW
  obtain ⟨q0, hq⟩ := (hL a _).mp (cE_arr hk (by decide))
  rw [cA_r (by omega) (by omega)] at hq
  have hat := hP q0 _ hq
  have hatb := hW.at (cE_arr (G := G) hb (by decide))
  rw [cA_i (by omega)] at hatb
  obtain ⟨kA, h1, h2⟩ := C.2.2.2.2.2.2.1.2
  obtain ⟨-, kB, h4, compB, h5⟩ := (C.2.2.2.2.2.2.1.1.2 _ _ (gK_ty (G := G) (kd := 11) (by decide) (by decide))).1 0 (fun _ => .null)
  have hlt : ¬ i < 0 ∧ i.toNatClampNeg < (arrV (G.2.1 17) (hN S a) (fun j => va_rf (aR S a j))).slots.size := by
    rw [arrV_size]
    exact ⟨fun q => hi (Or.inl q), Nat.not_le.mp fun q => hi (Or.inr q)⟩
  refine W.aast C.1 C.2.1 hat (fun q z => by cases z) (fun q => by cases q) h1 h2 rfl (kcomp := kB) h4 hlt hatb (fun q z => by cases z) h4 (va_asg _ _) rfl rfl hd fun H1 e z oq => ?_
  obtain ⟨X, hX⟩ : ∃ X : va_E, X = .inl (G.2.1 17, hN S a, .inr (.inr (.inr (.inr (va_up (aR S a) i.toNatClampNeg (some b)))))) := ⟨_, rfl⟩
  have hatX : va_at G.1 vwCl (a, X) H1 := by
    subst hX
    show H1[a]? = some (arrV (G.2.1 17) (hN S a) (fun j => va_rf (va_up (aR S a) i.toNatClampNeg (some b) j)))
    refine e.trans ?_
    show some ((arrV (G.2.1 17) (hN S a) (fun j => va_rf (aR S a j))).setSlot i.toNatClampNeg (.ref b)) = _
    rw [arrV_store]
    congr 2
    funext q
    by_cases hq9 : q = i.toNatClampNeg
    · subst hq9
      simp [updV, va_up, va_rf]
    · simp [updV, va_up, hq9]
  refine kk H1 _ ls ⟨ws.set q0 (a, X), hP.set hD hq hatX oq, hD.set hq, wL_congr (wL_set hD hL hq) (fun b0 => ?_)⟩ (hS.put z oq (hD.2 q0 _ hq)) hv
  rw [cE_tR (by omega) b0, hk, cA_r (S := tR S a i.toNatClampNeg (some b)) (show 12 < hK S a by omega) (show hK S a < 18 by omega), hX]
  have e : aR (tR S a i.toNatClampNeg (some b)) a = va_up (aR S a) i.toNatClampNeg (some b) := by
    funext z
    simp [aR, tR, u2, va_up]
  rw [e]
  rfl
/-- a new object of a kind -/
def NL (own : String) (idx kd N : Nat) : Prop :=
  ∃ (C : String) (T : u_T) (ty : Nat → FieldType), vwCl[kd + 1]? = some (C, T, N) ∧ (∀ w ∈ u_ws C T N, w ∈ wsG) ∧ (∀ k, k < N → parseFieldDescriptor (T k).2.2.1 = some (ty k)) ∧ Cond.classLink own idx C ∈ wsG ∧ Cond.instantiable C N ∈ wsG ∧ Cond.initialized C ∈ wsG ∧ 0 < kd ∧ kd < 7 ∧ (∀ j, j < N → defaultValue (ty j) = vp_V ((fds kd).map (fun q => if q.1 = 0 then .int 0 else if q.1 = 1 then .long 0 else .null)) j)
theorem wfresh {ws : va_W} {H1 : Heap} {q : Nat} {e1 : va_E} (hD : va_D A (ws ++ [(q, e1)])) (hL : wL ws (cE G S)) : hK S q = 0 := by
  rw [← cE_none (G := G)]
  cases hc : cE G S q with
  | none => rfl
  | some e =>
    obtain ⟨j, hj⟩ := (hL q e).mp hc
    have hlt := (List.getElem?_eq_some_iff.mp hj).1
    have := hD.1 j ws.length (q, e) (q, e1) (by rw [List.getElem?_append_left hlt]; exact hj) (by rw [List.getElem?_append_right (Nat.le_refl _)]; simp) rfl
    omega
theorem v_new (C : Cx p l e R s m args below meth c cc nL own G A) {idx kd N : Nat} (hN : NL own idx kd N) (hc : k + 1 ≤ R.cells) (hs : n + N ≤ R.slots) (hd : decode cc pc = .ok (.new idx, 3)) (kk : ∀ q : Nat, hK S q = 0 → V p l e R s m args below meth c nL G A (nO S q kd) (k + 1) (n + N) Q (pc + 3) (lv) (.ref q :: st)) : V p l e R s m args below meth c nL G A (S) (k) (n) Q (pc) (lv) (st) := by
  intro H locs ls hW hS hv
  obtain ⟨C1, T, ty, hcl, hin, hty, hlk, hins, hini, h0, h7, hdf⟩ := hN
  obtain ⟨ws, hP, hD, hL⟩ := id hW
  refine va_new C.1 C.2.1 C.2.2.2.2.1 hin ty hty C.2.2.2.1 (C.2.2.2.2.1 _ hlk) (C.2.2.2.2.1 _ hins) (C.2.2.2.2.1 _ hini) C.2.2.2.2.2.2.1.1 hP hD hS C.2.2.2.2.2.2.2.2 hcl hdf hc hs hd (fun q H1 hP1 hD1 hS1 => ?_)
  have hf := wfresh (H1 := H1) hD1 hL
  exact kk q hf H1 locs ls ⟨_, hP1, hD1, wL_congr (wL_push hL (cE_none.mpr hf)) (fun b => cE_nO h0 h7 b)⟩ hS1 hv
theorem v_newa (C : Cx p l e R s m args below meth c cc nL own G A) {kd : Nat} {at1 : ArrayType} {x : Int32} (N : Nat) (hk : (kd = 10 ∧ at1 = .int) ∨ (kd = 11 ∧ at1 = .char) ∨ (kd = 12 ∧ at1 = .long) ∨ (kd = 18 ∧ at1 = .double)) (hw : Cond.arrayClass (newarray.typeOf at1) ∈ wsG) (hn : ¬ x < 0) (hx : x.toNatClampNeg = N) (hb : N ≤ 60000000) (hc : k + 1 ≤ R.cells) (hs : n + N ≤ R.slots) (hd : decode cc pc = .ok (.newarray at1, 2)) (kk : ∀ q : Nat, hK S q = 0 → V p l e R s m args below meth c nL G A (nA S q kd N) (k + 1) (n + N) Q (pc + 2) (lv) (.ref q :: st)) : V p l e R s m args below meth c nL G A (S) (k) (n) Q (pc) (lv) (.int x :: st) := by
  intro H locs ls hW hS hv
  obtain ⟨ws, hP, hD, hL⟩ := id hW
  have hcl : ∀ (cQ : ClassId) (i : Nat) (ty : FieldType), (tysG G)[i]? = some (G.2.1 kd, ty) → va_RA s cQ ty → va_RA s (G.2.1 kd) ty → (∀ C0, ty ≠ .object C0) → cQ = G.2.1 kd := by
    intro cQ i ty _ h1 h2 hno
    cases ty with
    | object C0 => exact absurd rfl (hno C0)
    | _ => exact Option.some.inj (h1.symm.trans h2)
  have hK := C.2.2.2.2.2.2.1.1
  have go : ∀ (ty : FieldType) (a0 : vp_A), newarray.typeOf at1 = ty → (tysG G)[kd - 10]? = some (G.2.1 kd, ty) → (∀ C0, ty ≠ .object C0) → a0 = cA0 kd N → 10 ≤ kd → (∀ cQ : ClassId, vp_cell cQ a0 = arrV cQ N (fun _ => defaultValue ty)) → N * componentBytes ty ≤ 536870912 → W p l e R s m args below meth c H locs k n Q (F0 m pc ls (.int x :: st)) := by
    intro ty a0 hty htt hno ha0 h10 hcell hbytes
    refine va_newa C.1 C.2.1 (C.2.2.2.2.1 _ hw) hty hK hP hD hS C.2.2.2.2.2.2.2.2 hcell hn hx hbytes hc hs hd (fun q cQ H1 hK1 hP1 hD1 hS1 => ?_)
    have hf := wfresh (H1 := H1) hD1 hL
    have e : cQ = G.2.1 kd := hcl cQ (kd - 10) ty htt (hK1.2 (tysG G).length (cQ, ty) (by rw [List.getElem?_append_right (Nat.le_refl _)]; simp)).2 (hK.2 _ _ htt).2 hno
    subst e
    subst ha0
    exact kk q hf H1 locs ls ⟨_, hP1, hD1, wL_congr (wL_push hL (cE_none.mpr hf)) (fun b => cE_nA h10 b)⟩ hS1 hv
  rcases hk with ⟨rfl, rfl⟩ | ⟨rfl, rfl⟩ | ⟨rfl, rfl⟩ | ⟨rfl, rfl⟩
  · exact go .int (N, .inl (fun _ => 0)) rfl rfl (fun _ h => by cases h) rfl (by decide) (fun _ => rfl) (by show N * 4 ≤ _; omega)
  · exact go .char (N, .inl (fun _ => 0)) rfl rfl (fun _ h => by cases h) rfl (by decide) (fun _ => rfl) (by show N * 2 ≤ _; omega)
  · exact go .long (N, .inr (.inl (fun _ => 0))) rfl rfl (fun _ h => by cases h) rfl (by decide) (fun _ => rfl) (by show N * 8 ≤ _; omega)
  · exact go .double (N, .inr (.inr (.inr (.inl (fun _ => 0))))) rfl rfl (fun _ h => by cases h) rfl (by decide) (fun _ => rfl) (by show N * 8 ≤ _; omega)
theorem v_newq (C : Cx p l e R s m args below meth c cc nL own G A) {kd idx : Nat} {x : Int32} {C0 : String} (N : Nat) (hk : (kd = 13 ∧ C0 = RX0) ∨ (kd = 14 ∧ C0 = RX2) ∨ (kd = 15 ∧ C0 = RX3)) (hl : Cond.classLink own idx C0 ∈ wsG) (hov : Cond.arrayOver (.object C0) ∈ wsG) (hn : ¬ x < 0) (hx : x.toNatClampNeg = N) (hb : N ≤ 100000000) (hc : k + 1 ≤ R.cells) (hs : n + N ≤ R.slots) (hd : decode cc pc = .ok (.anewarray idx, 3)) (kk : ∀ q : Nat, hK S q = 0 → V p l e R s m args below meth c nL G A (nA S q kd N) (k + 1) (n + N) Q (pc + 3) (lv) (.ref q :: st)) : V p l e R s m args below meth c nL G A (S) (k) (n) Q (pc) (lv) (.int x :: st) := by
  intro H locs ls hW hS hv
  obtain ⟨ws, hP, hD, hL⟩ := id hW
  have hK := C.2.2.2.2.2.2.1.1
  have htt : (tysG G)[kd - 10]? = some (G.2.1 kd, .object C0) := by rcases hk with ⟨rfl, rfl⟩ | ⟨rfl, rfl⟩ | ⟨rfl, rfl⟩ <;> rfl
  have h10 : 10 ≤ kd := by omega
  have ha0 : cA0 kd N = (N, .inr (.inr (.inr (.inr (fun _ => none))))) := by rcases hk with ⟨rfl, rfl⟩ | ⟨rfl, rfl⟩ | ⟨rfl, rfl⟩ <;> rfl
  refine va_newq C.1 C.2.1 C.2.2.2.1 (C.2.2.2.2.1 _ hl) (va_AO.of (C.2.2.2.2.1 _ hov)) hK hP hD hS C.2.2.2.2.2.2.2.2 hn hx (by omega) hc hs hd (fun q cQ H1 hK1 hP1 hD1 hS1 => ?_)
  have hf := wfresh (H1 := H1) hD1 hL
  obtain ⟨kA, comp, e1, e2, e3, e4⟩ := (hK1.2 (tysG G).length (cQ, .object C0) (by rw [List.getElem?_append_right (Nat.le_refl _)]; simp)).2
  obtain ⟨kA', comp', g1, g2, g3, g4⟩ := (hK.2 _ _ htt).2
  have e : cQ = G.2.1 kd := Option.some.inj (e4.symm.trans g4)
  subst e
  rw [← ha0] at hP1 hD1
  exact kk q hf H1 locs ls ⟨_, hP1, hD1, wL_congr (wL_push hL (cE_none.mpr hf)) (fun b => cE_nA h10 b)⟩ hS1 hv
end WALK
