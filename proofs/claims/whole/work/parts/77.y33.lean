theorem dA_sub {S1 w : HS} {sz : Nat} (i : Inn S1 w) : ∀ q, dA S1 sz q → dA w sz q := fun q h => by
  rcases h with h | h
  · exact Or.inl (by rw [(i q h).1]; exact h)
  · exact Or.inr h
theorem wB.frm {G : GT} {S1 w : HS} {sz : Nat} {U : State} (i : Inn S1 w) (h : wB G w sz U) : wB G S1 sz U := by
  obtain ⟨q1, q2, q3, q4⟩ := h
  exact ⟨q1, q2.sub i (fun a ha => Or.inl ha), q3, q4.narrow (dA_sub i)⟩
theorem wE.frm {G : GT} {S1 w u : HS} {sz : Nat} {st t : State} (i : Inn S1 w) (h : wB G w sz st) (hE : wE G (dA S1 sz) u t) (hF : va_F (dA S1 sz) st t) : wE G (dA w sz) (fr S1 u w) t ∧ Cov S1 u w ∧ va_F (dA w sz) st t := by
  obtain ⟨q1, q2, q3, q4⟩ := h
  subst q1
  obtain ⟨h1, h2⟩ := Wd.frm q2 i hE.1 hF.2
  exact ⟨⟨h1, hE.2⟩, h2, hF.1, fun q h5 h6 => hF.2 q h5 (fun h7 => h6 (dA_sub i q h7))⟩
def frP (post : Option Value → HS → Prop) (S1 w : HS) : Option Value → HS → Prop := fun v w' => ∃ u, post v u ∧ Cov S1 u w ∧ fr S1 u w = w'
theorem gQ.frm {post : Option Value → HS → Prop} {G : GT} {S1 w : HS} {sz : Nat} {av : Array Value} {st t : State} {o : Outcome} (i : Inn S1 w) (h : wB G w sz st) (hq : gQ post G (dA S1 sz) av st o t) : gQ (frP post S1 w) G (dA w sz) av st o t := by
  obtain ⟨⟨v, u, ho, hp, hE⟩, hF⟩ := hq
  obtain ⟨h1, h2, h3⟩ := wE.frm i h hE hF
  exact ⟨⟨v, _, ho, ⟨u, hp, h2, rfl⟩, h1⟩, h3⟩
theorem cM.frm {l : Launch} {y : MethodName} {cc : ByteArray} {maxL : Nat} {ret : Option FieldType} {d : Nat} {av : List Value} {S1 w : HS} {post : Option Value → HS → Prop} {mc ms : Nat} (h : cM l y cc maxL ret d av S1 post mc ms) (i : Inn S1 w) : cM l y cc maxL ret d av w (frP post S1 w) mc ms := fun G sz =>
  MetFree.mono (h G sz) (fun a s hp => ⟨hp.1, hp.2.frm i⟩) (fun _ _ _ _ _ z => z) (fun a s o t hp hq => ⟨hq.1.frm i hp.2, by
    obtain ⟨L, h1, h2⟩ := hq.2
    exact ⟨L, h1, fun q hq => dA_sub i _ (h2 q hq)⟩⟩)
theorem cI.frm {l : Launch} {y : MethodName} {cc : ByteArray} {maxL : Nat} {d : Nat} {av : List Value} {S1 w : HS} {post : Option Value → HS → Prop} {mc ms : Nat} (h : cI l y cc maxL d av S1 post mc ms) (i : Inn S1 w) : cI l y cc maxL d av w (frP post S1 w) mc ms := fun G sz =>
  MetFree.mono (h G sz) (fun a s hp => ⟨hp.1, hp.2.1.frm i, hp.2.2⟩) (fun _ _ _ _ _ z => z) (fun a s o t hp hq => ⟨hq.1.frm i hp.2.1, by
    obtain ⟨L, h1, h2⟩ := hq.2
    exact ⟨L, h1, fun q hq => dA_sub i _ (h2 q hq)⟩⟩)
theorem cX.frm {l : Launch} {y : MethodName} {cc : ByteArray} {maxL : Nat} {ret : Option FieldType} {d : Nat} {av : List Value} {S1 w : HS} {post : Option Value → HS → Prop} {px : String → HS → Prop} {mc ms : Nat} (h : cX l y cc maxL ret d av S1 post px mc ms) (i : Inn S1 w) : cX l y cc maxL ret d av w (frP post S1 w) (fun E w' => ∃ u, px E u ∧ Cov S1 u w ∧ fr S1 u w = w') mc ms := fun G sz =>
  MetFree.mono (h G sz) (fun a s hp => ⟨hp.1, hp.2.frm i⟩) (fun _ _ _ _ _ z => z) (fun a s o t hp hq => by
    rcases hq with ⟨hq, L, h1, h2⟩ | ⟨q, ho, E, ce, L, ⟨u, -, ⟨hx, hE⟩, hF⟩, h3, h4, h5, h6, h7, h8⟩
    · exact Or.inl ⟨hq.frm i hp.2, L, h1, fun q hq => dA_sub i _ (h2 q hq)⟩
    · obtain ⟨g1, g2, g3⟩ := wE.frm i hp.2 hE hF
      exact Or.inr ⟨q, ho, E, ce, L, ⟨_, trivial, ⟨⟨u, hx, g2, rfl⟩, g1⟩, g3⟩, h3, h4, h5, h6, h7, fun z hz => dA_sub i _ (h8 z hz)⟩)
/-- the same contracts, in the form that the walks take -/
def frF {α : Type} (f : α → HS → Prop) (S1 w : HS) : α → HS → Prop := fun r w' => ∃ u, f r u ∧ Cov S1 u w ∧ fr S1 u w = w'
theorem cM.frmI {l : Launch} {y : MethodName} {cc : ByteArray} {maxL : Nat} {ret : Option FieldType} {d : Nat} {av : List Value} {S1 w : HS} {f : Int32 → HS → Prop} {mc ms : Nat} (h : cM l y cc maxL ret d av S1 (pI f) mc ms) (i : Inn S1 w) : cM l y cc maxL ret d av w (pI (frF f S1 w)) mc ms := (h.frm i).post (fun v w' hp => by
  obtain ⟨u, ⟨r, hv, hf⟩, h2, h3⟩ := hp
  exact ⟨r, hv, u, hf, h2, h3⟩)
theorem cM.frmL {l : Launch} {y : MethodName} {cc : ByteArray} {maxL : Nat} {ret : Option FieldType} {d : Nat} {av : List Value} {S1 w : HS} {f : Int64 → HS → Prop} {mc ms : Nat} (h : cM l y cc maxL ret d av S1 (pL f) mc ms) (i : Inn S1 w) : cM l y cc maxL ret d av w (pL (frF f S1 w)) mc ms := (h.frm i).post (fun v w' hp => by
  obtain ⟨u, ⟨r, hv, hf⟩, h2, h3⟩ := hp
  exact ⟨r, hv, u, hf, h2, h3⟩)
theorem cM.frmF {l : Launch} {y : MethodName} {cc : ByteArray} {maxL : Nat} {ret : Option FieldType} {d : Nat} {av : List Value} {S1 w : HS} {f : UInt32 → HS → Prop} {mc ms : Nat} (h : cM l y cc maxL ret d av S1 (pF f) mc ms) (i : Inn S1 w) : cM l y cc maxL ret d av w (pF (frF f S1 w)) mc ms := (h.frm i).post (fun v w' hp => by
  obtain ⟨u, ⟨r, hv, hf⟩, h2, h3⟩ := hp
  exact ⟨r, hv, u, hf, h2, h3⟩)
theorem cM.frmD {l : Launch} {y : MethodName} {cc : ByteArray} {maxL : Nat} {ret : Option FieldType} {d : Nat} {av : List Value} {S1 w : HS} {f : UInt64 → HS → Prop} {mc ms : Nat} (h : cM l y cc maxL ret d av S1 (pD f) mc ms) (i : Inn S1 w) : cM l y cc maxL ret d av w (pD (frF f S1 w)) mc ms := (h.frm i).post (fun v w' hp => by
  obtain ⟨u, ⟨r, hv, hf⟩, h2, h3⟩ := hp
  exact ⟨r, hv, u, hf, h2, h3⟩)
theorem cI.post {l : Launch} {y : MethodName} {cc : ByteArray} {maxL : Nat} {d : Nat} {av : List Value} {S : HS} {post post' : Option Value → HS → Prop} {mc ms : Nat} (h : cI l y cc maxL d av S post mc ms) (hp : ∀ v u, post v u → post' v u) : cI l y cc maxL d av S post' mc ms := fun G sz => MetFree.mono (h G sz) (fun _ _ z => z) (fun _ _ _ _ _ z => z) (fun a s o t _ hq => ⟨⟨by
  obtain ⟨v, u, h1, h2, h3⟩ := hq.1.1
  exact ⟨v, u, h1, hp v u h2, h3⟩, hq.1.2⟩, hq.2⟩)
theorem cI.frmV {l : Launch} {y : MethodName} {cc : ByteArray} {maxL : Nat} {d : Nat} {av : List Value} {S1 w : HS} {f : HS → Prop} {mc ms : Nat} (h : cI l y cc maxL d av S1 (pV f) mc ms) (i : Inn S1 w) : cI l y cc maxL d av w (pV (fun w' => ∃ u, f u ∧ Cov S1 u w ∧ fr S1 u w = w')) mc ms := (h.frm i).post (fun v w' hp => by
  obtain ⟨u, ⟨hv, hf⟩, h2, h3⟩ := hp
  exact ⟨hv, u, hf, h2, h3⟩)
theorem cX.post {l : Launch} {y : MethodName} {cc : ByteArray} {maxL : Nat} {ret : Option FieldType} {d : Nat} {av : List Value} {S : HS} {post post' : Option Value → HS → Prop} {px px' : String → HS → Prop} {mc ms : Nat} (h : cX l y cc maxL ret d av S post px mc ms) (hp : ∀ v u, post v u → post' v u) (hx : ∀ E u, px E u → px' E u) : cX l y cc maxL ret d av S post' px' mc ms := fun G sz => MetFree.mono (h G sz) (fun _ _ z => z) (fun _ _ _ _ _ z => z) (fun a s o t _ hq => by
  rcases hq with ⟨⟨⟨v, u, h1, h2, h3⟩, h4⟩, h5⟩ | ⟨q, ho, E, ce, L, ⟨u, h1, ⟨h2, h3⟩, h4⟩, h5⟩
  · exact Or.inl ⟨⟨⟨v, u, h1, hp v u h2, h3⟩, h4⟩, h5⟩
  · exact Or.inr ⟨q, ho, E, ce, L, ⟨u, h1, ⟨hx E u h2, h3⟩, h4⟩, h5⟩)
def frX (px : String → HS → Prop) (S1 w : HS) : String → HS → Prop := fun E w' => ∃ u, px E u ∧ Cov S1 u w ∧ fr S1 u w = w'
theorem cX.frmI {l : Launch} {y : MethodName} {cc : ByteArray} {maxL : Nat} {ret : Option FieldType} {d : Nat} {av : List Value} {S1 w : HS} {f : Int32 → HS → Prop} {px : String → HS → Prop} {mc ms : Nat} (h : cX l y cc maxL ret d av S1 (pI f) px mc ms) (i : Inn S1 w) : cX l y cc maxL ret d av w (pI (frF f S1 w)) (frX px S1 w) mc ms := (h.frm i).post (fun v w' hp => by
  obtain ⟨u, ⟨r, hv, hf⟩, h2, h3⟩ := hp
  exact ⟨r, hv, u, hf, h2, h3⟩) (fun _ _ z => z)
theorem cX.frmL {l : Launch} {y : MethodName} {cc : ByteArray} {maxL : Nat} {ret : Option FieldType} {d : Nat} {av : List Value} {S1 w : HS} {f : Int64 → HS → Prop} {px : String → HS → Prop} {mc ms : Nat} (h : cX l y cc maxL ret d av S1 (pL f) px mc ms) (i : Inn S1 w) : cX l y cc maxL ret d av w (pL (frF f S1 w)) (frX px S1 w) mc ms := (h.frm i).post (fun v w' hp => by
  obtain ⟨u, ⟨r, hv, hf⟩, h2, h3⟩ := hp
  exact ⟨r, hv, u, hf, h2, h3⟩) (fun _ _ z => z)
theorem cX.frmF {l : Launch} {y : MethodName} {cc : ByteArray} {maxL : Nat} {ret : Option FieldType} {d : Nat} {av : List Value} {S1 w : HS} {f : UInt32 → HS → Prop} {px : String → HS → Prop} {mc ms : Nat} (h : cX l y cc maxL ret d av S1 (pF f) px mc ms) (i : Inn S1 w) : cX l y cc maxL ret d av w (pF (frF f S1 w)) (frX px S1 w) mc ms := (h.frm i).post (fun v w' hp => by
  obtain ⟨u, ⟨r, hv, hf⟩, h2, h3⟩ := hp
  exact ⟨r, hv, u, hf, h2, h3⟩) (fun _ _ z => z)
theorem cX.frmD {l : Launch} {y : MethodName} {cc : ByteArray} {maxL : Nat} {ret : Option FieldType} {d : Nat} {av : List Value} {S1 w : HS} {f : UInt64 → HS → Prop} {px : String → HS → Prop} {mc ms : Nat} (h : cX l y cc maxL ret d av S1 (pD f) px mc ms) (i : Inn S1 w) : cX l y cc maxL ret d av w (pD (frF f S1 w)) (frX px S1 w) mc ms := (h.frm i).post (fun v w' hp => by
  obtain ⟨u, ⟨r, hv, hf⟩, h2, h3⟩ := hp
  exact ⟨r, hv, u, hf, h2, h3⟩) (fun _ _ z => z)
/-! a method of the law with a table of its own -/
def cH (l : Launch) (y : MethodName) (cc : ByteArray) (maxL : Nat) (hh : List (Nat × Nat × Nat × Nat)) (d : Nat) (av : List Value) (S : HS) (post : Option Value → HS → Prop) (mc ms : Nat) : Prop :=
  ∀ (G : GT) (sz : Nat), Met l y (.codeWith y cc maxL (Option.some Jvm.ClassFile.FieldType.int) hh :: wsG) (rmD d mc ms) (va_Pc av (wB G S sz)) (gQ post G (dA S sz)) mc ms (dA S sz)
theorem Met.ofWH {l : Launch} {y : MethodName} {ws ws' : List Cond} {rm : Room} {Pc : Array Value → State → Prop} {Qc : Array Value → State → Outcome → State → Prop} {mc ms : Nat} {free : Addr → Prop} {cc : ByteArray} {maxL : Nat} {ret : Option FieldType} {hh : List (Nat × Nat × Nat × Nat)}
    (hy : plainName y.cls = true) (hw : ws = Cond.codeWith y cc maxL ret hh :: ws')
    (body : ∀ p e s m args below meth c s₁, BodyLoose p l y (headSpec ws rm) cc maxL ret e s m args below meth c s₁ → c.maxLocals = maxL → c.exceptionTable.toList = tableOf hh → Pc args s →
      W p l e (headSpec ws rm).room s m args below meth c s.heap [] 0 0 (MQ below Qc args s mc ms free) (entryFrame m args maxL)) : Met l y ws rm Pc Qc mc ms free := by
  refine MetFree.of_bodyS (code := cc) (maxLocals := maxL) (ret := ret) hy ?_ ?_
  · intro args s m h hn
    obtain ⟨m9, meth, c, hn9, h1, h2, h3, h4, -, h5, h6, -⟩ := Cond.codeWith_spec (atoms_spec (ws := ws) h _ (by rw [hw]; exact List.mem_cons_self))
    cases hn.symm.trans hn9
    exact ⟨meth, c, h1, h2, h3, h4, h5, h6⟩
  · intro p e s m args below meth c s₁ B hml hP _
    have hh0 : s₁.heap = s.heap := by rw [B.state]; rfl
    have htb := vx_table (x := y) B (atoms_spec (ws := ws) B.pre _ (by rw [hw]; exact List.mem_cons_self))
    obtain ⟨t, a1, o, b1, b2, b3⟩ := body p e s m args below meth c s₁ B hml htb hP s₁ hh0 (Stand.of_body B)
    exact ⟨t, o, a1, b1, b2, b3⟩
theorem cH_intro {l : Launch} {y : MethodName} {cc : ByteArray} {maxL : Nat} {hh : List (Nat × Nat × Nat × Nat)} {d : Nat} {av : List Value} {S : HS} {post : Option Value → HS → Prop} {mc ms : Nat} (hy : plainName y.cls = true) (hn : (lg_sl av).length ≤ maxL)
    (body : ∀ (p : Program) (e : Env) (s : State) (m : MethodId) (args : Array Value) (below : List Frame) (meth : Method) (c : Code) (G : GT) (A : Nat → Prop), Cx p l e (rmD d mc ms) s m args below meth c cc maxL y.cls G A → meth.sig.returnType = Option.some Jvm.ClassFile.FieldType.int → c.exceptionTable.toList = tableOf hh → V p l e (rmD d mc ms) s m args below meth c maxL G A S 0 0 (MQ below (gQ post G A) args s mc ms A) 0 (lv_args 0 av) []) : cH l y cc maxL hh d av S post mc ms := by
  intro G sz
  refine Met.ofWH (cc := cc) (maxL := maxL) (ret := Option.some Jvm.ClassFile.FieldType.int) (hh := hh) hy rfl ?_
  intro p e s m args below meth c s₁ B hml htb hv
  obtain ⟨rfl, hsz, hW, hK9, hE⟩ := hv
  subst hsz
  have hts := atoms_spec (ws := Cond.codeWith y cc maxL (Option.some Jvm.ClassFile.FieldType.int) hh :: wsG) B.pre
  have C : Cx p l e (rmD d mc ms) s m av.toArray below meth c cc maxL y.cls G (dA S s.heap.size) := ⟨B.exec, B.bytes, hml, findClass_of_methodNamed B.named, fun w hw9 => hts w (List.mem_cons_of_mem _ hw9), B.notSynchronized, hK9, hE, fun q h => Or.inr h⟩
  have hl := lv_entry av (n := maxL) hn
  rw [lg_entry_eq]
  exact body p e s m _ below meth c G _ C B.returns htb s.heap [] _ hW va_S.rf hl
def MLH (own : String) (idx : Nat) (y : MethodName) (cb : ByteArray) (maxL : Nat) (hh : List (Nat × Nat × Nat × Nat)) (nargs : Nat) : Prop :=
  Cond.methodLink own idx y ∈ wsG ∧ Cond.initialized y.cls ∈ wsG ∧ Cond.codeWith y cb maxL (Option.some Jvm.ClassFile.FieldType.int) hh ∈ wsG ∧ Cond.static y ∈ wsG ∧ (y.cls ≠ "java/lang/invoke/MethodHandle" ∧ y.cls ≠ "java/lang/invoke/VarHandle" ∧ (parseMethodDescriptor y.desc).map (fun d => d.parameters.length) = some nargs)
section HLP
variable {p : Program} {l : Launch} {e : Env} {R : Room} {s : State} {m : MethodId} {args : Array Value} {below : List Frame} {meth : Method} {c : Code} {cc : ByteArray} {nL : Nat} {own : String} {G : GT} {A : Nat → Prop} {S : HS} {k n : Nat} {Q : State → Prop} {pc : Nat} {lv lv' : List (Nat × Value)} {st : List Value}
theorem v_callSHi (C : Cx p l e R s m args below meth c cc nL own G A) {idx : Nat} {y : MethodName} {cb : ByteArray} {maxL : Nat} {hh : List (Nat × Nat × Nat × Nat)} {nargs d mc ms : Nat} {f : Int32 → HS → Prop} (as : List Value) (hM : cH l y cb maxL hh d as S (pI f) mc ms) (hL : MLH own idx y cb maxL hh nargs) (hn : as.length = nargs) (hst : (st.map fun v => v.category).sum ≤ 8) (hfr : d + 1 ≤ R.frames) (hlo : 8 + (maxL + 11) + 40 * d ≤ R.locals) (hcl : k + mc ≤ R.cells) (hsl : n + ms ≤ R.slots) (hd : decode cc pc = .ok (.invokestatic idx, 3)) (kk : ∀ (r : Int32) (u : HS), f r u → V p l e R s m args below meth c nL G A (u) (k + mc) (n + ms) Q (pc + 3) (lv) (.int r :: st)) (st0 : List Value) (hst0 : st0 = as.reverse ++ st) : V p l e R s m args below meth c nL G A (S) (k) (n) Q (pc) (lv) (st0) := by
  intro H locs ls hW hS hv
  subst hst0
  have hfr9 := C.fr hW hS
  have hcw : vx_CSW R s args own idx y cb maxL (Option.some Jvm.ClassFile.FieldType.int) hh (.codeWith y cb maxL (Option.some Jvm.ClassFile.FieldType.int) hh :: wsG) (rmD d mc ms) mc ms nargs := by
    refine vx_cwSW (Ts := wsG) nargs C.2.2.2.2.1 (fun w hw => ?_) rfl rfl rfl hL.2.2.2.2 ⟨hfr, hlo⟩
    have hw9 : w ∈ wsG := by
      unfold va_wsS at hw
      rcases List.mem_append.mp hw with h | h
      · rcases List.mem_cons.mp h with rfl | h
        · exact hL.1
        · rcases List.mem_cons.mp h with rfl | h
          · exact hL.2.2.2.1
          · rcases List.mem_cons.mp h with rfl | h
            · exact hL.2.1
            · cases h
      · rcases List.mem_cons.mp h with rfl | h
        · exact hL.2.2.1
        · exact h
    exact ⟨hw9, good_of_word (wsG_good hw9)⟩
  refine g_call (vx_runSW (As := as) (rest := st) C.fix (hM G H.size) hcw (C.pre hW hS as) rfl hn hv.1 rfl (lv_room hst) hd ⟨hcl, hsl⟩) hS (fun q _ h => hfr9 q h) hfr9 (fun v u t H1 locs1 ht _ hp hB _ _ hS1 => ?_)
  obtain ⟨r, rfl, hp⟩ := hp
  subst ht
  exact kk r u hp _ locs1 ls (hB.1.weaken (fun q hq => hfr9 q (hB.1.dom hq).1)) hS1 hv
/-- caught by the row x of the table -/
theorem v_catch (C : Cx p l e R s m args below meth c cc nL own G A) {E name : String} {hh : List (Nat × Nat × Nat × Nat)} (htb : c.exceptionTable.toList = tableOf hh) (pre : List ExceptionTableEntry) (x : ExceptionTableEntry) (suf : List ExceptionTableEntry) (hsplit : tableOf hh = pre ++ x :: suf) (hpass : ∀ z ∈ pre, z.catchType ≠ 0 ∧ ∃ nm : String, Cond.classLink own z.catchType nm ∈ wsG ∧ (E, nm) ∈ ncs) (hx : covers x pc = true) (h0 : x.catchType ≠ 0) (hlink : Cond.classLink own x.catchType name ∈ wsG) (hcast : Cond.castable E name ∈ wsF) (kk : ∀ q9 : Nat, V p l e R s m args below meth c nL G A S k n Q x.handlerPc lv [.ref q9]) : VX p l e R s m args below meth c nL G A S k n Q pc lv st E := fun H locs ls q ce hW hS hv hce hcv hcl =>
  vx_catch C.2.2.2.1 pre x suf (htb.trans hsplit) (fun z hz => by
    obtain ⟨h1, nm, h2, h3⟩ := hpass z hz
    exact Or.inr ⟨h1, nm, C.2.2.2.2.1 _ h2, C.2.2.2.2.2.2.2.1.2.2.2.2 (E, nm) h3⟩) hx h0 (C.2.2.2.2.1 _ hlink) (va_Nw.use (wsF.on hcast) (C.2.2.2.2.2.2.2.1.2.2.2.1 _ hcast)) hce hcv hcl (kk q H locs ls hW hS hv)
end HLP
