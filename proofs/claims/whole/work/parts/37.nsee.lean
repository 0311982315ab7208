/-! NoSuchElementException(String): its constructor names its superclass at another place of its table than the others. The walk uses the library's own steps for a chain of constructors; its conclusion is only what 'throw' needs. -/
abbrev nX : String := "java/util/NoSuchElementException"
def nsR : List String := ["java/lang/RuntimeException", "java/lang/Exception"]
def nsB : ByteArray := ⟨#[0x2a, 0x2b, 0xb7, 0x00, 0x0d, 0xb1]⟩
def nsW (ic : Nat) : List Cond := Bundle.ownAtomsX RX4 ic nX 13 nsB nsR
section NSEE
variable {p : Program} {l : Launch} {e : Env} {R : Room} {s : State} {m₀ m : MethodId} {args : Array Value} {below : List Frame} {meth : Method} {c : Code} {W9 : State} {locs : List Loc} {cells slots : Nat}
set_option maxHeartbeats 2000000 in
theorem ns_ctor (X : Stand p l e R s m₀ args below meth c W9 locs cells slots) (hexec : p.tables.exec = Jvm.exec) (htr : e.platform.stackTraces = false) {ic : Nat} (hown : s.vm.findClass RX4 = some m₀.cls)
    (h : ∀ w ∈ nsW ic, w.before args s = true) (hl0 : locs = []) {a : Addr} {cX : ClassId} {kX : Class} (hfX : s.vm.findClass nX = some cX) (hkX : s.vm.classes[cX]? = some kX) (hcell : W9.heap[a]? = some (freshCell cX kX)) (hnew : s.heap.size ≤ a)
    {msg : Value} (hmsg : msg.isRef = true) {g : JFrame} (hg : g.method = m₀) (hsize : g.locals.size = c.maxLocals) (hlk : g.locked = none) (hen : g.entered = []) {rest : List Value} (hstack : g.stack = msg :: .ref a :: .ref a :: rest)
    (d6 : decode c.code g.pc = .ok (.invokespecial ic, 3)) (d9 : decode c.code (g.pc + 3) = .ok (.athrow, 1)) (hout : ∀ x ∈ c.exceptionTable.toList, covers x (g.pc + 3) = false)
    (hf : 5 < R.frames) (hlo : 2 * g.monitorRoom + ((Value.ref a :: rest).map fun v => v.category).sum + 81 ≤ R.locals) (hlocks : meth.locks = false) :
    ∃ U : State, Steps p.tables e below (W9.setTop g) U ∧ U.status = .running ∧ Ended U below (.threw a) ∧ s.WarmedH U.vm ∧ s.sameButNew ({ U with vm := s.vm } : State) [] cells slots ∧ ∃ ce, U.heap[a]? = some ce ∧ ce.cls = cX ∧ ce.vm = .none := by
  subst hl0
  have pf : e.platform.frameOwnsMonitors = true ∧ e.platform.finalization = false ∧ e.platform.magicAccessors = ({} : Platform).magicAccessors := by rw [X.admits.platform]; exact ⟨rfl, rfl, rfl⟩
  obtain ⟨pf1, pf2, pf3⟩ := pf
  have mem : ∀ w, w ∈ nsW ic → w.before args s = true := h
  have w' : ∀ w, w ∈ nsW ic → w.holds args s none s [] = true := fun w hw => h w hw
  obtain ⟨T, Z0, L, -, Y⟩ := ThrowableC.of_atoms (args := args) pf1 pf2 pf3 (fun w hw => mem w (by simp [nsW, Bundle.ownAtomsX, hw]))
  obtain ⟨Z, M, LZ, LM, hnZ⟩ := Init0T.ofS_atoms (args := args) pf3 L Y (fun w hw => mem w (by simp [nsW, Bundle.ownAtomsX, hw]))
  obtain ⟨P1, Ps, hlen, L1, hL, hP1m, k1, k2⟩ := Bundle.chainSX (args := args) pf3 hnZ (rx := nsB) (ix := 13) (by decide +kernel) (by decide +kernel) (by decide +kernel) (by decide +kernel) nsR nX (by decide +kernel) (by decide +kernel) (fun w hw => mem w (by simp [nsW, Bundle.ownAtomsX, hw]))
  have hfo : s.vm.findClass nX = some P1.m.cls := findClass_of_methodNamed hP1m
  cases Option.some.inj (hfX.symm.trans hfo)
  obtain ⟨c1, kX', q1, hk, hord, -, -, -⟩ := Cond.instantiable_spec (w' (.instantiable nX 6) (by simp [nsW, Bundle.ownAtomsX]))
  cases Option.some.inj (q1.symm.trans hfo)
  cases Option.some.inj (hkX.symm.trans hk)
  have sel : ∀ (t : MethodName) (tm : MethodId), s.methodNamed? t = some tm → (t.cls ≠ "java/lang/invoke/MethodHandle" ∧ t.cls ≠ "java/lang/invoke/VarHandle") → (Cond.selects nX t t).holds args s none s [] = true → selectMethod e.platform s.vm P1.m.cls tm = .method tm := fun t tm hn ht hw => by
    obtain ⟨c2, r2, m2, q1, q2, q3, q4, -⟩ := Cond.selects_spec hw
    cases Option.some.inj (q1.symm.trans hfo)
    cases Option.some.inj (q2.symm.trans (State.methodFound?_of_named hn ht))
    cases Option.some.inj (q3.symm.trans hn)
    rw [Launch.admits_selectMethod X.admits]
    exact q4
  have hsel0 := sel Bundle.tFill0 T.fill0 Y.fill0 (by decide) (w' _ (by simp [nsW, Bundle.ownAtomsX]))
  have hselF := sel Bundle.tFill T.fill Y.fill (by decide) (w' _ (by simp [nsW, Bundle.ownAtomsX]))
  obtain ⟨cS0, hcS0, hiss⟩ := Y.statics
  obtain ⟨u0, hu0⟩ := Cond.staticRefV Y.unassigned L.unassignedStatic L.statics hcS0 hiss (w' (.isRef (.static Bundle.tN "UNASSIGNED_STACK" Bundle.steD)) (by simp [nsW, Bundle.ownAtomsX]))
  obtain ⟨sen, hsen⟩ := Cond.staticRefV Y.sentinel L.sentinelStatic L.statics hcS0 hiss (w' (.isRef (.static Bundle.tN "SUPPRESSED_SENTINEL" Bundle.listD)) (by simp [nsW, Bundle.ownAtomsX]))
  obtain ⟨ci9, i9, fB, b1, b2, b3, b4, -, b6, b7, b8⟩ := Cond.ownField (t := .object "java/lang/Object") Y.found L.cls (by decide +kernel) (w' (.fieldLink Bundle.tN 198 Bundle.tN "backtrace" "Ljava/lang/Object;") (by simp [nsW, Bundle.ownAtomsX])) (w' (.lays Bundle.tN Bundle.tN "backtrace" "Ljava/lang/Object;") (by simp [nsW, Bundle.ownAtomsX])) e.platform pf3
  obtain ⟨cS, hcS', heS, -, hkeep⟩ := X.same.2.2.2.2.2 T.aS cS0 hcS0
  have hcS : W9.heap[T.aS]? = some cS := hcS'
  have hkn : cS.vm ≠ .unknown := by
    rw [heS]
    intro z
    rw [show cS0.vm = .unknown from z] at hiss
    cases hiss
  have hneS : T.aS ≠ a := Nat.ne_of_lt (Nat.lt_of_lt_of_le (Array.getElem?_eq_some_iff.mp hcS0).1 hnew)
  obtain ⟨iM, fM⟩ := Y.msg
  obtain ⟨tyC, eC, gC, nC⟩ := Cond.laysAt hfo hk Y.cause (w' (.lays nX Bundle.tN "cause" "Ljava/lang/Throwable;") (by simp [nsW, Bundle.ownAtomsX]))
  obtain ⟨tyS, eS9, gS, nS⟩ := Cond.laysAt hfo hk Y.stack (w' (.lays nX Bundle.tN "stackTrace" Bundle.steD) (by simp [nsW, Bundle.ownAtomsX]))
  obtain ⟨tyP, eP, gP, nP⟩ := Cond.laysAt hfo hk Y.supp (w' (.lays nX Bundle.tN "suppressedExceptions" Bundle.listD) (by simp [nsW, Bundle.ownAtomsX]))
  obtain ⟨tyM, eM, gM, nM⟩ := Cond.laysAt hfo hk fM (w' (.lays nX Bundle.tN "detailMessage" "Ljava/lang/String;") (by simp [nsW, Bundle.ownAtomsX]))
  obtain ⟨tyB, eB9, gB, nB⟩ := Cond.laysAt hfo hk b8 (w' (.lays nX Bundle.tN "backtrace" "Ljava/lang/Object;") (by simp [nsW, Bundle.ownAtomsX]))
  have aC := Cond.laysApart gB gC nB nC (by rw [b6, Y.causeName]; decide)
  have aS := Cond.laysApart gB gS nB nS (by rw [b6, Y.stackName]; decide)
  have aP := Cond.laysApart gB gP nB nP (by rw [b6, Y.suppName]; decide)
  have skip : SkipFacts T e.platform s (fun u => u) u0 ((preparedCellV T.toThrowableT (freshCell P1.m.cls kX) a u0 sen).withEntry W9.cur) := by
    refine ⟨{ ci198 := ci9, i198 := i9, fBack := fB }, ⟨b1, b2, b3, b4⟩, ?_, fun _ _ => rfl⟩
    have z := fresh_default (c := P1.m.cls) tyB
    rw [b7] at z
    simpa [preparedCellV, Cell.setSlot, Cell.withEntry, Array.getElem?_setIfInBounds, aC, aS, aP, aC.symm, aS.symm, aP.symm, defaultValue] using z
  obtain ⟨tm, mC, cdC, kC, v1, hnC, -, -, -, -, -, -, -, hW1, st1⟩ := Steps.initColdS (tb := p.tables) (e := e) (below := below) (s := s) (U := W9) X.here hexec X.warmed pf3 hown (t := Bundle.initS nX) rfl rfl ⟨by decide, by decide⟩
    (w' (.methodLink RX4 ic (Bundle.initS nX)) (by simp [nsW, Bundle.ownAtomsX])) (h (.instanceMethod (Bundle.initS nX)) (by simp [nsW, nsR, Bundle.ownAtomsX, Bundle.chainSAtomsX, Bundle.passSAtoms])) (bytes := nsB) (maxL := 2) (h (.code (Bundle.initS nX) nsB 2 none) (by simp [nsW, nsR, Bundle.ownAtomsX, Bundle.chainSAtomsX, Bundle.passSAtoms]))
    (f := g) hg (a := a) (msg := msg) (rest := .ref a :: rest) hstack d6
  cases Option.some.inj (hnC.symm.trans hP1m)
  have hlen2 : Ps.length = 2 := hlen
  obtain ⟨v2, X2, st2⟩ := (X.noted hW1).ctorMessageOffV hexec (g := { g with stack := .ref a :: rest }) hg hsize T L Z LZ M LM (P1 :: Ps)
    (fun P hP => (List.mem_cons.mp hP).elim (fun z => by rw [z]; exact L1) (hL P)) ⟨k1, k2⟩ (u0 := u0) (sen := sen) (self := a) hmsg (cell := freshCell P1.m.cls kX) (cellS := cS)
    hcell (fun _ => by simp) (by simp) rfl rfl hsel0 hselF hcS hneS hkn (by rw [hkeep _ (by simp)]; exact hu0) (by rw [hkeep _ (by simp)]; exact hsen)
    (Takes.of_laid hk hord tyC (by rw [Y.causeType]; rfl)) (Takes.of_laid hk hord tyS (by rw [Y.stackType]; exact fits_refV_array _ u0)) (Takes.of_laid hk hord tyP (by rw [Y.suppType]; exact fits_refV_object _ sen))
    (Takes.of_laid hk hord tyM (by rw [Y.msgType]; exact fits_refV_object _ ⟨msg, hmsg⟩)) Y.objLocals skip htr [] d6
    (by rw [List.length_cons, hlen2]; omega) (by rw [List.length_cons, hlen2]; exact hlo)
  obtain ⟨hwalk, hrun, hend, hWU, hsame⟩ := X2.athrowLeaves hexec (g := { g with stack := .ref a :: rest, pc := g.pc + 3 }) hg hlk hen hout (a := a) (rest := rest) rfl d9
  have hlt : a < ((W9.setVm v1).setVm v2).heap.size := (Array.getElem?_eq_some_iff.mp hcell).1
  refine ⟨_, st1 _ (fun acts => ?_), hrun, hend, hWU, hsame.weaken (fun y hy hlt' => ?_) (Nat.le_refl _) (Nat.le_refl _), _, heapAt_setCell_self (s := (W9.setVm v1).setVm v2) (plainBareV T.toThrowableT (freshCell P1.m.cls kX) a u0 sen msg) hlt, rfl, rfl⟩
  · rw [doInvoke_state]
    exact st2 _ hwalk
  · have hb : y.base = a := by
      simp only [List.nil_append, List.mem_append, List.mem_cons, List.not_mem_nil, or_false, false_or] at hy
      rcases hy with rfl | rfl | rfl | rfl | rfl <;> rfl
    rw [hb] at hlt'
    exact absurd hlt' (Nat.not_lt.mpr hnew)
/-- the words of the throw but the four of the heap -/
def nsV (ic : Nat) : List Cond := (nsW ic).filter vx_no
/-- a state's words about a String, at another state of the same tables -/
theorem ns_throw {A : Nat → Prop} {H : Heap} {pc : Nat} {ls : Array Slot} {rest : List Value} {Qc : Array Value → State → Outcome → State → Prop} {XC : String → State → State → Prop} {free : Addr → Prop} {cc : ByteArray} (hexec : p.tables.exec = Jvm.exec) (hb : c.code = cc) (hl : l.stackTraces = false) {text : String} {ik is ic mc ms sa : Nat}
    (hown : s.vm.findClass RX4 = some m.cls) (hk : (Cond.classLink RX4 ik nX).before args s = true) (hini : (Cond.initialized nX).before args s = true) (hstr : vk_R RX4 is text sa s) (hat : ∀ w ∈ nsV ic, w.before args s = true)
    (hgood : ∀ w ∈ Cond.classLink RX4 ik nX :: Cond.initialized nX :: nsV ic, vx_ot w = true)
    (hU : vx_Zq Bundle.tN "UNASSIGNED_STACK" Bundle.steD A s s.heap) (hN : vx_Zq Bundle.tN "SUPPRESSED_SENTINEL" Bundle.listD A s s.heap) (hS : va_S A s.heap H locs) (hsize : ls.size = c.maxLocals)
    (d0 : decode cc pc = .ok (.new ik, 3)) (d3 : decode cc (pc + 3) = .ok (.dup, 1)) (d4 : decode cc (pc + 4) = .ok (.ldc_w is, 3)) (d7 : decode cc (pc + 7) = .ok (.invokespecial ic, 3)) (d10 : decode cc (pc + 10) = .ok (.athrow, 1))
    (hout : ∀ x ∈ c.exceptionTable.toList, covers x (pc + 10) = false)
    (hRf : 5 < R.frames) (hRl : (rest.map fun v => v.category).sum + 82 ≤ R.locals) (hRc : cells + 1 ≤ R.cells) (hRs : slots + 6 ≤ R.slots) (hlocks : meth.locks = false)
    (hx : ∀ t : State, s.vm.Alike t.vm → H.size ≤ t.heap.size → (∀ q : Nat, q < H.size → t.heap[q]? = H[q]?) → XC nX s t)
    (hf : ∀ z ∈ locs, free z.base) (hc : cells + 1 ≤ mc) (hs : slots + 6 ≤ ms) :
    W p l e R s m args below meth c H locs cells slots (vx_MQ below Qc XC args s mc ms free) (F0 m pc ls rest) := by
  intro T hT X
  have htr : e.platform.stackTraces = false := (show e.platform.stackTraces = l.stackTraces by rw [X.admits.platform]).trans hl
  have Y := vx_rebase X (R' := { frames := R.frames, locals := R.locals, cells := 1, slots := 6 }) (Nat.le_refl _) (Nat.le_refl _) hRc hRs
  generalize hA : (T.setVm s.vm).setFrames (.invoking m args :: below) = s1 at Y
  have hvm : s1.vm = s.vm := by rw [← hA]; rfl
  have hhp : s1.heap = H := by rw [← hA]; exact hT
  have hW0 : s.WarmedH s1.vm := by rw [hvm]; exact State.WarmedH.refl s
  have up : ∀ w ∈ Cond.classLink RX4 ik nX :: Cond.initialized nX :: nsV ic, w.before args s = true → w.before args s1 = true := fun w hw hb => vx_ot_at hW0 hvm.symm (hgood w hw) hb
  have hU1 : vx_Zq Bundle.tN "UNASSIGNED_STACK" Bundle.steD A s1 s1.heap := by rw [hhp]; exact vx_Zq.moved hW0.alike (hU.kept hS.2.1)
  have hN1 : vx_Zq Bundle.tN "SUPPRESSED_SENTINEL" Bundle.listD A s1 s1.heap := by rw [hhp]; exact vx_Zq.moved hW0.alike (hN.kept hS.2.1)
  have h : ∀ w ∈ nsW ic, w.before args s1 = true := vx_own (fun w hw => up w (List.mem_cons_of_mem _ (List.mem_cons_of_mem _ hw)) (hat w hw)) (vx_isRefq hU1.1) (vx_isRefq hN1.1) hU1.2.word hN1.2.word
  have hown1 : s1.vm.findClass RX4 = some m.cls := by rw [hvm]; exact hown
  obtain ⟨v1, cX, kX, hfX, hkX, -, -, X1, st1⟩ := Y.newCold hexec (own := RX4) (C := nX) (index := ik) (n := 6) hown1 (up _ List.mem_cons_self hk) (h _ (by simp [nsW, Bundle.ownAtomsX])) (up _ (List.mem_cons_of_mem _ List.mem_cons_self) hini)
    (g := F0 m pc ls rest) rfl (by rw [hb]; exact d0) (Nat.le_refl _) (Nat.le_refl _)
  generalize hT1 : (T.setVm v1).pushCell { cls := cX, slots := kX.instanceTypes.map defaultValue, vm := .none } = T1 at X1 st1
  have hcA : T1.heap[T.heap.size]? = some (freshCell cX kX) := by rw [← hT1]; exact State.heap_pushCell_size _ _
  have d3' : decode c.code (pc + 3) = .ok (.dup, 1) := by rw [hb]; exact d3
  have d4' : decode c.code (pc + 4) = .ok (.ldc_w is, 3) := by rw [hb]; exact d4
  have hs1 : vk_R RX4 is text sa s1 := vk_R.warm hW0 hstr
  obtain ⟨U, hsteps, hrun, hend, hW, hsame, ce, hce, hcl9, hv9⟩ := ns_ctor X1 hexec htr (ic := ic) hown1 h rfl hfX hkX hcA (by rw [hhp, hT]; exact Nat.le_refl _) (msg := .ref sa) rfl
    (g := { method := m, pc := pc + 7, locals := ls, stack := .ref sa :: .ref T.heap.size :: .ref T.heap.size :: rest, locked := none }) rfl hsize rfl rfl (rest := rest) rfl
    (by rw [hb]; exact d7) (by rw [hb]; exact d10) hout hRf (by have hcat : (Value.ref T.heap.size).category = 1 := rfl; simp only [List.map_cons, List.sum_cons, hcat]; show 2 * 0 + _ + _ ≤ R.locals; omega) hlocks
  obtain ⟨f1, f2⟩ := vx_frame hsame
  rw [hhp] at f1 f2
  have hWs : s.WarmedH U.vm := State.WarmedH.trans hW0 hW
  have hall : s.sameButNew ({ U with vm := s.vm } : State) locs mc ms := by
    subst hA
    obtain ⟨e1, e2⟩ := hsame
    rw [State.setFrames_setFrames] at e1
    have h3 := X.same.trans (⟨e1, e2⟩ : (T.setVm s.vm).sameButNew ({ U with vm := s.vm } : State) [] (0 + 1) (0 + 6))
    rw [List.append_nil] at h3
    exact h3.mono hc hs
  refine ⟨U, st1 _ ?_, .threw T.heap.size, hrun, hend, Or.inr ⟨T.heap.size, rfl, nX, ce, locs, hx U hWs.alike f1 (fun q hq => f2 q hq (fun z hz => nomatch hz)), hce, hv9, by rw [hcl9, ← hvm]; exact hfX, hWs, hall, hf⟩⟩
  show Steps p.tables e below (T1.setTop { method := m, pc := pc + 3, locals := ls, stack := .ref T.heap.size :: rest, locked := none }) _
  jvm_step X1.here [X1.here.top, hexec, d3', Value.category]
  exact X1.ldcStringW hexec (own := RX4) (text := text) (index := is) (a := sa) hown1 hs1.1 hs1.2
    (g := { method := m, pc := pc + 4, locals := ls, stack := .ref T.heap.size :: .ref T.heap.size :: rest, locked := none }) rfl d4' _ hsteps
end NSEE
/-- throw new NoSuchElementException("text"), the text by a wide index -/
def TN (ik is ic : Nat) (text : String) : Prop := (is, text) ∈ strs ∧ ∀ w ∈ Cond.classLink RX4 ik nX :: Cond.initialized nX :: nsV ic, w ∈ wsG ∨ w ∈ wsF
section NSV
variable {p : Program} {l : Launch} {e : Env} {R : Room} {s : State} {m : MethodId} {args : Array Value} {below : List Frame} {meth : Method} {c : Code} {cc : ByteArray} {nL : Nat} {own : String} {G : GT} {A : Nat → Prop} {S : HS} {k n : Nat} {Q : State → Prop} {pc : Nat} {lv lv' : List (Nat × Value)} {st : List Value}
theorem v_throwN (C : Cx p l e R s m args below meth c cc nL RX4 G A) (hlf : l.stackTraces = false) {post : Option Value → HS → Prop} {px : String → HS → Prop} {mc ms ik is ic : Nat} {text : String} (hT : TN ik is ic text) (hnt : ∀ x ∈ c.exceptionTable.toList, False) (hRf : 5 < R.frames) (hst : (st.map fun v => v.category).sum ≤ 8) (hRl : 90 ≤ R.locals) (hRc : k + 1 ≤ R.cells) (hRs : n + 6 ≤ R.slots) (hk : k + 1 ≤ mc) (hn : n + 6 ≤ ms) (hp : px nX S)
    (d0 : decode cc pc = .ok (.new ik, 3)) (d3 : decode cc (pc + 3) = .ok (.dup, 1)) (d4 : decode cc (pc + 4) = .ok (.ldc_w is, 3)) (d6 : decode cc (pc + 7) = .ok (.invokespecial ic, 3)) (d9 : decode cc (pc + 10) = .ok (.athrow, 1)) : V p l e R s m args below meth c nL G A S k n (vx_MQ below (gQ post G A) (gX px G A) args s mc ms A) pc lv st := by
  intro H locs ls hW hS hv
  obtain ⟨hstr, hws⟩ := hT
  obtain ⟨h1, h2, h3, h9, -⟩ := C.2.2.2.2.2.2.2.1
  have hat : ∀ w ∈ Cond.classLink RX4 ik nX :: Cond.initialized nX :: nsV ic, w.before args s = true ∧ vx_ot w = true := fun w hw => by
    rcases hws w hw with h | h
    · exact ⟨C.2.2.2.2.1 _ h, by simp [vx_ot, wsG_good h]⟩
    · exact ⟨va_Nw.use (wsF.on h) (h9 w h), by simp [vx_ot, wsF.on h]⟩
  refine ns_throw C.1 C.2.1 hlf C.2.2.2.1 (hat _ List.mem_cons_self).1 (hat _ (List.mem_cons_of_mem _ List.mem_cons_self)).1 (h3 _ hstr) (fun w hw => (hat _ (List.mem_cons_of_mem _ (List.mem_cons_of_mem _ hw))).1) (fun w hw => (hat w hw).2) h1 h2 hS (hv.1.trans C.2.2.1.symm) d0 d3 d4 d6 d9 (fun x hx => (hnt x hx).elim) hRf (by omega) hRc hRs C.2.2.2.2.2.1 (fun t hal hsz hkp => ?_) hS.2.2 hk hn
  refine ⟨S, trivial, ⟨hp, hW.kept (fun q hq => hkp q (hW.dom hq).2), gK.moved hal C.2.2.2.2.2.2.1⟩, Nat.le_trans hS.1 hsz, fun q h4 h5 => ?_⟩
  rw [hkp q (Nat.lt_of_lt_of_le h4 hS.1)]
  exact hS.2.1 q h4 h5
end NSV
theorem tn_321 : TN 319 321 323 "not merged" := ⟨by decide +kernel, by decide +kernel⟩
theorem tn_331 : TN 319 331 323 "no such sign" := ⟨by decide +kernel, by decide +kernel⟩
theorem tn_345 : TN 319 345 323 "no track is live" := ⟨by decide +kernel, by decide +kernel⟩
theorem tn_350 : TN 319 350 323 "no such live track" := ⟨by decide +kernel, by decide +kernel⟩
