/-! ===== BEGIN new T[n][m]: the outer array a place, the inner ones among the pooled ===== -/
/-- f, but v at every address of l -/
def vr_up {α : Type} (f : Nat → α) (l : List Nat) (v : α) : Nat → α := fun a => if a ∈ l then v else f a
theorem vr_up_in {α : Type} {f : Nat → α} {l : List Nat} {v : α} {a : Nat} (h : a ∈ l) : vr_up f l v a = v := if_pos h
theorem vr_up_ne {α : Type} {f : Nat → α} {l : List Nat} {v : α} {a : Nat} (h : a ∉ l) : vr_up f l v a = f a := if_neg h
theorem vr_rows {L l : List Nat} {f : Nat → va_E} {e : va_E} (h : ∀ a, a ∈ l → a ∉ L) : va_pl L f ++ l.map (fun a => (a, e)) = va_pl (L ++ l) (vr_up f l e) := by
  unfold va_pl
  rw [List.map_append]
  congr 1
  · apply List.map_congr_left
    intro a ha
    rw [vr_up_ne (fun q => h a q ha)]
  · apply List.map_congr_left
    intro a ha
    rw [vr_up_in ha]
theorem vr_lay {X rows : va_W} {x : Nat × va_E} {pl : va_W} {D : va_G} {cl : List vw_C} {H : Heap} (hP : va_P D cl (((X ++ pl) ++ [x]) ++ rows) H) : va_P D cl ((X ++ [x]) ++ (pl ++ rows)) H := by
  rw [List.append_assoc (X ++ pl)] at hP
  have h := va_P.swap hP
  rw [← List.append_assoc X] at h
  have h2 := va_P.swap h
  rw [List.append_assoc (X ++ [x])] at h2
  exact h2
theorem vr_layD {X rows : va_W} {x : Nat × va_E} {pl : va_W} {A : Nat → Prop} (hD : va_D A (((X ++ pl) ++ [x]) ++ rows)) : va_D A ((X ++ [x]) ++ (pl ++ rows)) := by
  rw [List.append_assoc (X ++ pl)] at hD
  have h := va_D.swap hD
  rw [← List.append_assoc X] at h
  have h2 := va_D.swap h
  rw [List.append_assoc (X ++ [x])] at h2
  exact h2
theorem vr_outer (c : ClassId) (N h0 : Nat) : ∀ i : Nat, Jvm.Free.Multi.outerC c N h0 i = arrV c N (fun j => va_rf (if j < i then some (h0 + 1 + j) else none))
  | 0 => by
    show ({ cls := c, slots := Array.replicate N .null, vm := .none } : Cell) = _
    rw [arrV_new]
    refine congrArg (arrV c N) (funext fun j => ?_)
    simp [va_rf]
  | i + 1 => by
    show (Jvm.Free.Multi.outerC c N h0 i).setSlot i (.ref (h0 + 1 + i)) = _
    rw [vr_outer c N h0 i, arrV_store]
    refine congrArg (arrV c N) (funext fun j => ?_)
    by_cases e : j = i
    · subst e
      simp [updV, va_rf]
    · by_cases h : j < i
      · simp [updV, e, h, Nat.lt_succ_of_lt h]
      · simp [updV, e, h, show ¬ j < i + 1 by omega]
section VGM
variable {p : Program} {l : Launch} {e : Env} {R : Room} {s : State} {m : MethodId} {args : Array Value} {below : List Frame} {meth : Method} {c : Code} {H : Heap} {locs : List Loc} {cells slots : Nat} {Q : State → Prop}
variable {cc : ByteArray} {pc : Nat} {ls : Array Slot} {rest : List Value} {D : va_G} {cl : List vw_C} {A : Nat → Prop} {a : Nat} {tys : List (ClassId × FieldType)} {ws : va_W} {H0 : Heap}
theorem va_mna {X : va_W} {L : List Nat} {f : Nat → va_E} {cc : ByteArray} (hexec : p.tables.exec = Jvm.exec) (hb : c.code = cc) {own : String} {index : Nat} {ty : FieldType} {cy : ClassId} (hown : s.vm.findClass own = some m.cls) (hclink : (Cond.classLink own index ("[" ++ (FieldType.array ty).toString)).before args s = true) (hover : (Cond.arrayOver (.array ty)).before args s = true) (harr : (Cond.arrayClass ty).before args s = true) (hcy : s.vm.findClass (FieldType.array ty).toString = some cy)
    (hK : va_K D cl tys s) (hP : va_P D cl (X ++ va_pl L f) H) (hD : va_D A (X ++ va_pl L f)) (hS : va_S A H0 H locs) (hA : ∀ q, H0.size ≤ q → A q) {n k : Int32} {N' K' : Nat} {z : vp_A} (hn : ¬ n < 0) (hk : ¬ k < 0) (hN : n.toNatClampNeg = N') (hM : k.toNatClampNeg = K')
    (hb1 : N' * 4 ≤ 536870912) (hb2 : K' * componentBytes ty ≤ 536870912) (hb3 : K' ≤ 536870912) (hdf : fits ty (defaultValue ty) = true) (hdd : (defaultValue ty).isDefault = true) (hcells : cells + (1 + N') ≤ R.cells) (hslots : slots + (N' + N' * K') ≤ R.slots) (hz : ∀ c : ClassId, Jvm.Free.Multi.innerC c K' (defaultValue ty) = vp_cell c z) (hdg : decode cc pc = .ok (.multianewarray index 2, 4))
    (kk : ∀ (q : Nat) (r : Nat → Nat) (cA : ClassId) (H1 : Heap), (∀ i j : Nat, i < N' → j < N' → r i = r j → i = j) → (∀ i : Nat, i < N' → r i ∉ L) → va_K D cl (tys ++ [(cA, .array ty)]) s →
      va_P D cl ((X ++ [(q, .inl (cA, N', .inr (.inr (.inr (.inr (fun i => if i < N' then some (r i) else none))))))]) ++ va_pl (L ++ (List.range N').map r) (vr_up f ((List.range N').map r) (.inl (cy, z)))) H1 → va_D A ((X ++ [(q, .inl (cA, N', .inr (.inr (.inr (.inr (fun i => if i < N' then some (r i) else none))))))]) ++ va_pl (L ++ (List.range N').map r) (vr_up f ((List.range N').map r) (.inl (cy, z)))) → va_S A H0 H1 locs →
      W p l e R s m args below meth c H1 locs (cells + 1 + N') (slots + N' + N' * K') Q (F0 m (pc + 4) ls (.ref q :: rest))) : W p l e R s m args below meth c H locs cells slots Q (F0 m pc ls (.int k :: .int n :: rest)) := by
  subst hN
  subst hM
  intro T hT Xs
  obtain ⟨vm₁, cA, comp, -, fA, fC, hO, -, X', step⟩ := Xs.multianewarray2F hexec hown hclink hover harr (g := F0 m pc ls (.int k :: .int n :: rest)) rfl (by rw [hb]; exact hdg) rfl hn hk hb1 hb2 hb3 hdf hdd hcells hslots
  have ec : some cy = some comp := hcy.symm.trans fC
  cases ec
  generalize hF : Jvm.Free.Multi.fill (T.setVm vm₁) cA cy n.toNatClampNeg k.toNatClampNeg (defaultValue ty) n.toNatClampNeg = F at X' step
  have hTh : (T.setVm vm₁).heap = H := hT
  obtain ⟨f1, f2, -, -⟩ := Jvm.Free.Multi.fill_facts (T.setVm vm₁) cA cy n.toNatClampNeg k.toNatClampNeg (defaultValue ty) n.toNatClampNeg
  rw [hF, hTh] at f1 f2
  have hold : ∀ x : Nat, x < H.size → F.heap[x]? = H[x]? := fun x hx => by
    have := Jvm.Free.Multi.fill_old (T.setVm vm₁) cA cy n.toNatClampNeg k.toNatClampNeg (defaultValue ty) (a := x) (by rw [hTh]; exact hx) n.toNatClampNeg
    rw [hF, hTh] at this
    exact this
  have hrow : ∀ j : Nat, j < n.toNatClampNeg → F.heap[H.size + 1 + j]? = some (vp_cell cy z) := fun j hj => by
    have := Jvm.Free.Multi.fill_inner (T.setVm vm₁) cA cy n.toNatClampNeg k.toNatClampNeg (defaultValue ty) n.toNatClampNeg j hj
    rw [hF, hTh, hz] at this
    exact this
  have hout : Jvm.Free.Multi.outerC cA n.toNatClampNeg H.size n.toNatClampNeg = vp_cell cA (n.toNatClampNeg, .inr (.inr (.inr (.inr (fun i => if i < n.toNatClampNeg then some (H.size + 1 + i) else none))))) := by
    rw [vp_cell_q]
    exact vr_outer cA n.toNatClampNeg H.size n.toNatClampNeg
  rw [hout] at f2
  have hlt : ∀ a, a ∈ L → a < H.size := fun a ha => by
    obtain ⟨k9, hk9⟩ := va_pl_get (X := X) (f := f) ha
    exact (hP k9 _ hk9).lt
  have hnl : ∀ i : Nat, i < n.toNatClampNeg → H.size + 1 + i ∉ L := fun i _ h => by
    have := hlt _ h
    omega
  have hnm : ∀ a, a ∈ (List.range n.toNatClampNeg).map (fun i => H.size + 1 + i) → a ∉ L := fun a ha h => by
    obtain ⟨i, -, rfl⟩ := List.mem_map.mp ha
    have := hlt _ h
    omega
  have hP0 : va_P D cl (X ++ va_pl L f) F.heap := hP.kept (fun k9 x hx => hold x.1 ((hP k9 x hx).lt))
  have hP1 : va_P D cl ((X ++ va_pl L f) ++ [(H.size, .inl (cA, n.toNatClampNeg, .inr (.inr (.inr (.inr (fun i => if i < n.toNatClampNeg then some (H.size + 1 + i) else none))))))]) F.heap := hP0.app (fun k9 x hx => by
    have h0 : k9 < 1 := (List.getElem?_eq_some_iff.mp hx).1
    rw [show k9 = 0 by omega] at hx
    cases hx
    exact f2)
  have hP2 : va_P D cl (((X ++ va_pl L f) ++ [(H.size, .inl (cA, n.toNatClampNeg, .inr (.inr (.inr (.inr (fun i => if i < n.toNatClampNeg then some (H.size + 1 + i) else none))))))]) ++ ((List.range n.toNatClampNeg).map (fun i => H.size + 1 + i)).map (fun a => (a, .inl (cy, z)))) F.heap := hP1.app (fun k9 x hx => by
    obtain ⟨a, ha, rfl⟩ := List.mem_map.mp (List.mem_of_getElem? hx)
    obtain ⟨i, hi, rfl⟩ := List.mem_map.mp ha
    exact hrow i (List.mem_range.mp hi))
  have hD2 : va_D A (((X ++ va_pl L f) ++ [(H.size, .inl (cA, n.toNatClampNeg, .inr (.inr (.inr (.inr (fun i => if i < n.toNatClampNeg then some (H.size + 1 + i) else none))))))]) ++ ((List.range n.toNatClampNeg).map (fun i => H.size + 1 + i)).map (fun a => (a, .inl (cy, z)))) := by
    have hD1 := hD.push (e := .inl (cA, n.toNatClampNeg, .inr (.inr (.inr (.inr (fun i => if i < n.toNatClampNeg then some (H.size + 1 + i) else none)))))) hP rfl (hA _ hS.1)
    generalize hW1 : (X ++ va_pl L f) ++ [(H.size, .inl (cA, n.toNatClampNeg, .inr (.inr (.inr (.inr (fun i => if i < n.toNatClampNeg then some (H.size + 1 + i) else none))))))] = W1 at hD1 hP1 ⊢
    have hle : ∀ (k9 : Nat) (x : Nat × va_E), W1[k9]? = some x → x.1 ≤ H.size := fun k9 x hx => by
      rw [← hW1] at hx
      by_cases hl : k9 < (X ++ va_pl L f).length
      · rw [List.getElem?_append_left hl] at hx
        exact Nat.le_of_lt ((hP k9 x hx).lt)
      · rw [List.getElem?_append_right (by omega)] at hx
        have h0 : k9 - (X ++ va_pl L f).length < 1 := (List.getElem?_eq_some_iff.mp hx).1
        rw [show k9 - (X ++ va_pl L f).length = 0 by omega] at hx
        cases hx
        exact Nat.le_refl _
    have hr : ∀ (k9 : Nat) (x : Nat × va_E), (((List.range n.toNatClampNeg).map (fun i => H.size + 1 + i)).map (fun a => ((a, .inl (cy, z)) : Nat × va_E)))[k9]? = some x → x.1 = H.size + 1 + k9 := fun k9 x hx => by
      rw [List.getElem?_map, List.getElem?_map] at hx
      by_cases h9 : k9 < n.toNatClampNeg
      · rw [List.getElem?_range h9] at hx
        cases hx
        rfl
      · have hn0 : (List.range n.toNatClampNeg)[k9]? = none := List.getElem?_eq_none (by rw [List.length_range]; omega)
        rw [hn0] at hx
        cases hx
    refine ⟨fun i j x y hi hj hxy => ?_, fun k9 x hx => ?_⟩
    · by_cases h1 : i < W1.length <;> by_cases h2 : j < W1.length
      · rw [List.getElem?_append_left h1] at hi
        rw [List.getElem?_append_left h2] at hj
        exact hD1.1 i j x y hi hj hxy
      · rw [List.getElem?_append_left h1] at hi
        rw [List.getElem?_append_right (by omega)] at hj
        have := hle _ _ hi
        have := hr _ _ hj
        omega
      · rw [List.getElem?_append_right (by omega)] at hi
        rw [List.getElem?_append_left h2] at hj
        have := hle _ _ hj
        have := hr _ _ hi
        omega
      · rw [List.getElem?_append_right (by omega)] at hi hj
        have := hr _ _ hi
        have := hr _ _ hj
        omega
    · by_cases h1 : k9 < W1.length
      · rw [List.getElem?_append_left h1] at hx
        exact hD1.2 k9 x hx
      · rw [List.getElem?_append_right (by omega)] at hx
        have := hr _ _ hx
        exact hA _ (by have := hS.1; omega)
  have hAr : ArrOfT s cA (.array ty) := fun N9 z9 => by
    obtain ⟨-, k9, hk9, cm9, hkk9⟩ := (hO 0 0 0).1
    exact ⟨(fun q hq => by cases hq), k9, hk9, cm9, hkk9⟩
  have hK2 : va_K D cl (tys ++ [(cA, .array ty)]) s := ⟨hK.1, fun k9 x hx => by
    by_cases hl : k9 < tys.length
    · rw [List.getElem?_append_left hl] at hx
      exact hK.2 k9 x hx
    · rw [List.getElem?_append_right (by omega)] at hx
      have h0 : k9 - tys.length < 1 := (List.getElem?_eq_some_iff.mp hx).1
      rw [show k9 - tys.length = 0 by omega] at hx
      cases hx
      exact ⟨hAr, fA⟩⟩
  obtain ⟨t, a1, b1⟩ := kk H.size (fun i => H.size + 1 + i) cA F.heap (fun i j _ _ h => by have h9 : H.size + 1 + i = H.size + 1 + j := h; omega) hnl hK2 (by rw [← vr_rows hnm]; exact vr_lay hP2) (by rw [← vr_rows hnm]; exact vr_layD hD2) ⟨by rw [f1]; have := hS.1; omega, fun x h1 h2 => (hold x (Nat.lt_of_lt_of_le h1 hS.1)).trans (hS.2.1 x h1 h2), hS.2.2⟩ F rfl X'
  refine ⟨t, step t ?_, b1⟩
  have e : T.heap.size = H.size := by rw [hT]
  rw [e]
  exact a1
end VGM
theorem hN_nA2 {S : HS} {a b kd n : Nat} (h : b ≠ a) : hN (nA S a kd n) b = hN S b := by simp [hN, nA, va_up, h]
theorem aI_nA1 {S : HS} {a kd n z : Nat} : aI (nA S a kd n) a z = 0 := by simp [aI, nA, ur]
theorem aI_nA2 {S : HS} {a b kd n : Nat} (h : b ≠ a) : aI (nA S a kd n) b = aI S b := by funext z; simp [aI, nA, ur, h]
theorem aR_nA1 {S : HS} {a kd n z : Nat} : aR (nA S a kd n) a z = none := by simp [aR, nA, ur]
theorem aR_nA2 {S : HS} {a b kd n : Nat} (h : b ≠ a) : aR (nA S a kd n) b = aR S b := by funext z; simp [aR, nA, ur, h]
/-- classes of rows of rows and of objects' rows, which the rows' own list can't hold -/
def aoB (t : FieldType) (U : State) : Prop := (Cond.arrayOver t).before #[] U = true
theorem aoB.moved {t : FieldType} {u U : State} (hvm : u.vm.Alike U.vm) (h : aoB (.array t) u) : aoB (.array t) U := by
  obtain ⟨comp, c, k, h1, h2, h3, h4, h5⟩ := arrayOverA_spec h
  obtain ⟨k', hk', he⟩ := hvm.2.2 _ _ h3
  have hi : (U.vm.classes.findIdx? fun (x : Class) => match x.kind with | .array component _ => component == comp | _ => false) = some c := by
    have e1 := va_idx_bare U.vm comp
    have e2 := va_idx_bare u.vm comp
    rw [hvm.bare_eq] at e1
    exact e1.symm.trans (e2.trans h2)
  have hkind : k'.kind = .array comp (.array t) := by rw [he]; exact h4
  have f1 : U.vm.findClass (FieldType.array t).toString = some comp := by rw [hvm.findClass]; exact h1
  have f2 : U.vm.findClass ("[" ++ (FieldType.array t).toString) = some c := by rw [hvm.findClass]; exact h5
  unfold aoB Cond.before Cond.holds
  simp only [Cond.value]
  rw [f1, Option.bind_some]
  refine (congrArg (fun o : Option Nat => (o.bind (fun c => (U.vm.classes[c]?).map fun (k : Class) => match k.kind with | .array _ ty => decide (ty = FieldType.array t) && decide (U.vm.findClass ("[" ++ (FieldType.array t).toString) = some c) | _ => false) == some true)) hi).trans ?_
  simp [hk', hkind, f2]
def aoW (U : State) : Prop := va_AO RX0 U ∧ va_AO RX2 U ∧ va_AO RX3 U ∧ aoB (.array .char) U ∧ aoB (.array .long) U
theorem aoW.moved {u U : State} (hvm : u.vm.Alike U.vm) (h : aoW u) : aoW U := ⟨va_AO.moved hvm h.1, va_AO.moved hvm h.2.1, va_AO.moved hvm h.2.2.1, aoB.moved hvm h.2.2.2.1, aoB.moved hvm h.2.2.2.2⟩
/-- a constructor's contract -/
def cI (l : Launch) (y : MethodName) (cc : ByteArray) (maxL : Nat) (d : Nat) (av : List Value) (S : HS) (post : Option Value → HS → Prop) (mc ms : Nat) : Prop :=
  ∀ (G : GT) (sz : Nat), Met l y (.code y cc maxL none :: wsG) (rmD d mc ms) (va_Pc av (fun U => wB G S sz U ∧ aoW U)) (gQ post G (dA S sz)) mc ms (dA S sz)
theorem cI_intro {l : Launch} {y : MethodName} {cc : ByteArray} {maxL : Nat} {d : Nat} {av : List Value} {S : HS} {post : Option Value → HS → Prop} {mc ms : Nat} (hy : plainFor y = true) (hw : Cond.code y cc maxL none ∈ wsG) (hn : (lg_sl av).length ≤ maxL)
    (body : ∀ (p : Program) (e : Env) (s : State) (m : MethodId) (args : Array Value) (below : List Frame) (meth : Method) (c : Code) (G : GT) (A : Nat → Prop), Cx p l e (rmD d mc ms) s m args below meth c cc maxL y.cls G A → aoW s → meth.sig.returnType = none → meth.name = y.name → V p l e (rmD d mc ms) s m args below meth c maxL G A S 0 0 (MQ below (gQ post G A) args s mc ms A) 0 (lv_args 0 av) []) : cI l y cc maxL d av S post mc ms := by
  intro G sz
  refine Met.ofWF (cc := cc) (maxL := maxL) (ret := none) hy rfl ?_
  intro p e s m args below meth c s₁ B hml hv
  obtain ⟨rfl, ⟨hsz, hW, hK9, hE⟩, hao⟩ := hv
  subst hsz
  have hts := atoms_spec (ws := Cond.code y cc maxL none :: wsG) B.pre
  have C : Cx p l e (rmD d mc ms) s m av.toArray below meth c cc maxL y.cls G (dA S s.heap.size) := ⟨B.exec, B.bytes, hml, findClass_of_methodNamed B.named, fun w hw9 => hts w (List.mem_cons_of_mem _ hw9), B.notSynchronized, hK9, hE, fun q h => Or.inr h⟩
  have hl := lv_entry av (n := maxL) hn
  rw [lg_entry_eq]
  exact body p e s m _ below meth c G _ C hao B.returns (name_of_methodNamed B.named B.method).1 s.heap [] _ hW va_S.rf hl
theorem xB.blind (G : GT) (S : HS) (sz : Nat) (av : List Value) : FrameBlind (va_Pc av (fun U => wB G S sz U ∧ aoW U)) := fun a U g mk q =>
  ⟨q.1, (wB.blind G S sz av a U g mk ⟨q.1, q.2.1⟩).2, aoW.moved (u := U) (U := U.calling g mk a) (Vm.Alike.refl U.vm) q.2.2⟩
section MNA
variable {p : Program} {l : Launch} {e : Env} {R : Room} {s : State} {m : MethodId} {args : Array Value} {below : List Frame} {meth : Method} {c : Code} {cc : ByteArray} {nL : Nat} {own : String} {G : GT} {A : Nat → Prop} {S : HS} {k n : Nat} {Q : State → Prop} {pc : Nat} {lv lv' : List (Nat × Value)} {st : List Value}
/-- a row of four rows of six longs -/
def mS (S : HS) (q r0 r1 r2 r3 : Nat) : HS := tR (tR (tR (tR (nA (nA (nA (nA (nA S q 16 4) r0 12 6) r1 12 6) r2 12 6) r3 12 6) q 0 (some r0)) q 1 (some r1)) q 2 (some r2)) q 3 (some r3)
theorem wfresh2 {ws ws2 : va_W} {a j : Nat} {e1 : va_E} (hD : va_D A (ws ++ ws2)) (hL : wL ws (cE G S)) (hj : ws2[j]? = some (a, e1)) : hK S a = 0 := by
  rw [← cE_none (G := G)]
  cases hc : cE G S a with
  | none => rfl
  | some e =>
    obtain ⟨i, hi⟩ := (hL a e).mp hc
    have hlt := (List.getElem?_eq_some_iff.mp hi).1
    have := hD.1 i (ws.length + j) (a, e) (a, e1) (by rw [List.getElem?_append_left hlt]; exact hi) (by rw [List.getElem?_append_right (by omega)]; rw [show ws.length + j - ws.length = j by omega]; exact hj) rfl
    omega
theorem dis2 {ws ws2 : va_W} {i j : Nat} {x y : Nat × va_E} (hD : va_D A (ws ++ ws2)) (hi : ws2[i]? = some x) (hj : ws2[j]? = some y) (h : x.1 = y.1) : i = j := by
  have := hD.1 (ws.length + i) (ws.length + j) x y (by rw [List.getElem?_append_right (by omega), show ws.length + i - ws.length = i by omega]; exact hi) (by rw [List.getElem?_append_right (by omega), show ws.length + j - ws.length = j by omega]; exact hj) h
  omega
theorem cE_mS {q r0 r1 r2 r3 : Nat} (h0 : q ≠ r0) (h1 : q ≠ r1) (h2 : q ≠ r2) (h3 : q ≠ r3) (b : Nat) :
    cE G (mS S q r0 r1 r2 r3) b = if b = r3 then some (.inl (G.2.1 12, cA0 12 6)) else if b = r2 then some (.inl (G.2.1 12, cA0 12 6)) else if b = r1 then some (.inl (G.2.1 12, cA0 12 6)) else if b = r0 then some (.inl (G.2.1 12, cA0 12 6)) else if b = q then some (.inl (G.2.1 16, 4, .inr (.inr (.inr (.inr (fun i => if i < 4 then some (if i = 0 then r0 else if i = 1 then r1 else if i = 2 then r2 else r3) else none)))))) else cE G S b := by
  have k5 : hK (nA (nA (nA (nA (nA S q 16 4) r0 12 6) r1 12 6) r2 12 6) r3 12 6) q = 16 := by
    rw [hK_nA2 h3, hK_nA2 h2, hK_nA2 h1, hK_nA2 h0]; exact hK_nA1
  unfold mS
  by_cases hb : b = q
  · subst hb
    have kq : hK (tR (tR (tR (tR (nA (nA (nA (nA (nA S b 16 4) r0 12 6) r1 12 6) r2 12 6) r3 12 6) b 0 (some r0)) b 1 (some r1)) b 2 (some r2)) b 3 (some r3)) b = 16 := k5
    rw [if_neg h3, if_neg h2, if_neg h1, if_neg h0, if_pos rfl, cE_arr (S := (tR (tR (tR (tR (nA (nA (nA (nA (nA S b 16 4) r0 12 6) r1 12 6) r2 12 6) r3 12 6) b 0 (some r0)) b 1 (some r1)) b 2 (some r2)) b 3 (some r3))) (kd := 16) kq (by decide), cA_r (S := (tR (tR (tR (tR (nA (nA (nA (nA (nA S b 16 4) r0 12 6) r1 12 6) r2 12 6) r3 12 6) b 0 (some r0)) b 1 (some r1)) b 2 (some r2)) b 3 (some r3))) (by rw [kq]; decide) (by rw [kq]; decide)]
    have eN : hN (tR (tR (tR (tR (nA (nA (nA (nA (nA S b 16 4) r0 12 6) r1 12 6) r2 12 6) r3 12 6) b 0 (some r0)) b 1 (some r1)) b 2 (some r2)) b 3 (some r3)) b = 4 := by
      show hN (nA (nA (nA (nA (nA S b 16 4) r0 12 6) r1 12 6) r2 12 6) r3 12 6) b = 4
      rw [hN_nA2 h3, hN_nA2 h2, hN_nA2 h1, hN_nA2 h0]; exact hN_nA1
    have eR : aR (tR (tR (tR (tR (nA (nA (nA (nA (nA S b 16 4) r0 12 6) r1 12 6) r2 12 6) r3 12 6) b 0 (some r0)) b 1 (some r1)) b 2 (some r2)) b 3 (some r3)) b = fun i => if i < 4 then some (if i = 0 then r0 else if i = 1 then r1 else if i = 2 then r2 else r3) else none := by
      funext i
      rw [aR_tR1, aR_tR1, aR_tR1, aR_tR1, aR_nA2 h3, aR_nA2 h2, aR_nA2 h1, aR_nA2 h0, aR_nA1]
      by_cases i0 : i = 0
      · subst i0; rfl
      · by_cases i1 : i = 1
        · subst i1; rfl
        · by_cases i2 : i = 2
          · subst i2; rfl
          · by_cases i3 : i = 3
            · subst i3; rfl
            · rw [if_neg i3, if_neg i2, if_neg i1, if_neg i0, if_neg (by omega)]
    rw [eN, eR]
  · have kt : ∀ (T : HS) (j : Nat) (v : Option Nat), hK T q = 16 → cE G (tR T q j v) b = cE G T b := fun T j v hk => by
      rw [cE_tR (by rw [hk]; decide), if_neg hb]
    rw [kt (tR (tR (tR (nA (nA (nA (nA (nA S q 16 4) r0 12 6) r1 12 6) r2 12 6) r3 12 6) q 0 (some r0)) q 1 (some r1)) q 2 (some r2)) 3 (some r3) k5, kt (tR (tR (nA (nA (nA (nA (nA S q 16 4) r0 12 6) r1 12 6) r2 12 6) r3 12 6) q 0 (some r0)) q 1 (some r1)) 2 (some r2) k5, kt (tR (nA (nA (nA (nA (nA S q 16 4) r0 12 6) r1 12 6) r2 12 6) r3 12 6) q 0 (some r0)) 1 (some r1) k5, kt (nA (nA (nA (nA (nA S q 16 4) r0 12 6) r1 12 6) r2 12 6) r3 12 6) 0 (some r0) k5, cE_nA (by decide), cE_nA (by decide), cE_nA (by decide), cE_nA (by decide), cE_nA (by decide), if_neg hb, if_neg hb]
theorem v_mna (C : Cx p l e R s m args below meth c cc nL own G A) {idx : Nat} (hl : Cond.classLink own idx ("[" ++ (FieldType.array FieldType.long).toString) ∈ wsG) (hov : aoB (.array .long) s) (har : Cond.arrayClass .long ∈ wsG) (hc : k + (1 + 4) ≤ R.cells) (hs : n + (4 + 24) ≤ R.slots) (hd : decode cc pc = .ok (.multianewarray idx 2, 4))
    (kk : ∀ q r0 r1 r2 r3 : Nat, hK S q = 0 → hK S r0 = 0 → hK S r1 = 0 → hK S r2 = 0 → hK S r3 = 0 → [q, r0, r1, r2, r3].Nodup → V p l e R s m args below meth c nL G A (mS S q r0 r1 r2 r3) (k + 1 + 4) (n + 4 + 24) Q (pc + 4) lv (.ref q :: st)) : V p l e R s m args below meth c nL G A S k n Q pc lv (.int 6 :: .int 4 :: st) := by
  intro H locs ls hW hS hv
  obtain ⟨ws, hP, hD, hL⟩ := id hW
  have hKK := C.2.2.2.2.2.2.1.1
  have e0 : ws ++ va_pl [] (fun _ : Nat => (Sum.inl (G.2.1 12, cA0 12 6) : va_E)) = ws := List.append_nil ws
  refine va_mna (X := ws) (L := []) (f := fun _ => .inl (G.2.1 12, cA0 12 6)) (ty := .long) (cy := G.2.1 12) (z := cA0 12 6) (N' := 4) (K' := 6) C.1 C.2.1 C.2.2.2.1 (C.2.2.2.2.1 _ hl) hov (C.2.2.2.2.1 _ har) (hKK.2 2 _ rfl).2 hKK (by rw [e0]; exact hP) (by rw [e0]; exact hD) hS C.2.2.2.2.2.2.2.2 (by decide) (by decide) rfl rfl (by decide) (by decide) (by decide) rfl rfl hc hs (fun c9 => ?_) hd (fun q r cA H1 hinj hnl hK1 hP1 hD1 hS1 => ?_)
  · show ({ cls := c9, slots := Array.replicate 6 (.long 0), vm := .none } : Cell) = arrV c9 6 (fun _ => .long 0)
    rw [arrV_new]
  have ec : cA = G.2.1 16 := Option.some.inj (((hK1.2 (tysG G).length (cA, .array .long) (by rw [List.getElem?_append_right (Nat.le_refl _)]; simp)).2).symm.trans ((hKK.2 6 _ rfl).2))
  subst ec
  have ev : vr_up (fun _ : Nat => (Sum.inl (G.2.1 12, cA0 12 6) : va_E)) ((List.range 4).map r) (Sum.inl (G.2.1 12, cA0 12 6)) = fun _ => Sum.inl (G.2.1 12, cA0 12 6) := by
    funext a
    unfold vr_up
    split <;> rfl
  rw [ev] at hP1 hD1
  have el : (ws ++ [(q, (Sum.inl (G.2.1 16, 4, .inr (.inr (.inr (.inr (fun i => if i < 4 then some (r i) else none))))) : va_E))]) ++ va_pl ([] ++ (List.range 4).map r) (fun _ => Sum.inl (G.2.1 12, cA0 12 6)) = ws ++ [(q, Sum.inl (G.2.1 16, 4, .inr (.inr (.inr (.inr (fun i => if i < 4 then some (r i) else none)))))), (r 0, Sum.inl (G.2.1 12, cA0 12 6)), (r 1, Sum.inl (G.2.1 12, cA0 12 6)), (r 2, Sum.inl (G.2.1 12, cA0 12 6)), (r 3, Sum.inl (G.2.1 12, cA0 12 6))] := by
    rw [List.append_assoc]
    rfl
  rw [el] at hP1 hD1
  have f0 : hK S q = 0 := wfresh2 (j := 0) hD1 hL rfl
  have f1 : hK S (r 0) = 0 := wfresh2 (j := 1) hD1 hL rfl
  have f2 : hK S (r 1) = 0 := wfresh2 (j := 2) hD1 hL rfl
  have f3 : hK S (r 2) = 0 := wfresh2 (j := 3) hD1 hL rfl
  have f4 : hK S (r 3) = 0 := wfresh2 (j := 4) hD1 hL rfl
  have d01 : q ≠ r 0 := fun z => absurd (dis2 (i := 0) (j := 1) hD1 rfl rfl z) (by decide)
  have d02 : q ≠ r 1 := fun z => absurd (dis2 (i := 0) (j := 2) hD1 rfl rfl z) (by decide)
  have d03 : q ≠ r 2 := fun z => absurd (dis2 (i := 0) (j := 3) hD1 rfl rfl z) (by decide)
  have d04 : q ≠ r 3 := fun z => absurd (dis2 (i := 0) (j := 4) hD1 rfl rfl z) (by decide)
  have d12 : r 0 ≠ r 1 := fun z => absurd (dis2 (i := 1) (j := 2) hD1 rfl rfl z) (by decide)
  have d13 : r 0 ≠ r 2 := fun z => absurd (dis2 (i := 1) (j := 3) hD1 rfl rfl z) (by decide)
  have d14 : r 0 ≠ r 3 := fun z => absurd (dis2 (i := 1) (j := 4) hD1 rfl rfl z) (by decide)
  have d23 : r 1 ≠ r 2 := fun z => absurd (dis2 (i := 2) (j := 3) hD1 rfl rfl z) (by decide)
  have d24 : r 1 ≠ r 3 := fun z => absurd (dis2 (i := 2) (j := 4) hD1 rfl rfl z) (by decide)
  have d34 : r 2 ≠ r 3 := fun z => absurd (dis2 (i := 3) (j := 4) hD1 rfl rfl z) (by decide)
  have nd : [q, r 0, r 1, r 2, r 3].Nodup := by simp [d01, d02, d03, d04, d12, d13, d14, d23, d24, d34]
  have n0 : cE G S q = none := cE_none.mpr f0
  have L1 := wL_push hL (a := q) (e1 := Sum.inl (G.2.1 16, 4, .inr (.inr (.inr (.inr (fun i => if i < 4 then some (r i) else none)))))) n0
  have L2 := wL_push L1 (a := r 0) (e1 := Sum.inl (G.2.1 12, cA0 12 6)) (by rw [if_neg d01.symm]; exact cE_none.mpr f1)
  have L3 := wL_push L2 (a := r 1) (e1 := Sum.inl (G.2.1 12, cA0 12 6)) (by rw [if_neg d12.symm, if_neg d02.symm]; exact cE_none.mpr f2)
  have L4 := wL_push L3 (a := r 2) (e1 := Sum.inl (G.2.1 12, cA0 12 6)) (by rw [if_neg d23.symm, if_neg d13.symm, if_neg d03.symm]; exact cE_none.mpr f3)
  have L5 := wL_push L4 (a := r 3) (e1 := Sum.inl (G.2.1 12, cA0 12 6)) (by rw [if_neg d34.symm, if_neg d24.symm, if_neg d14.symm, if_neg d04.symm]; exact cE_none.mpr f4)
  rw [List.append_assoc, List.append_assoc, List.append_assoc, List.append_assoc] at L5
  refine kk q (r 0) (r 1) (r 2) (r 3) f0 f1 f2 f3 f4 nd H1 locs ls ⟨_, hP1, hD1, wL_congr L5 (fun b => ?_)⟩ hS1 hv
  rw [cE_mS d01 d02 d03 d04]
  have er : (fun i => if i < 4 then some (if i = 0 then r 0 else if i = 1 then r 1 else if i = 2 then r 2 else r 3) else none) = fun i => if i < 4 then some (r i) else none := by
    funext i
    by_cases h : i < 4
    · rw [if_pos h, if_pos h]
      rcases (show i = 0 ∨ i = 1 ∨ i = 2 ∨ i = 3 by omega) with rfl | rfl | rfl | rfl <;> rfl
    · rw [if_neg h, if_neg h]
  rw [er]
theorem Cx.preX (C : Cx p l e R s m args below meth c cc nL own G A) (hao : aoW s) {H : Heap} {locs : List Loc} (hW : Wd G A S H) (hS : va_S A s.heap H locs) (av : List Value) : PreS s H (va_Pc av (fun U => wB G S H.size U ∧ aoW U)) av :=
  ⟨xB.blind G S H.size av, fun U hU hWm => ⟨((C.pre hW hS av).2 U hU hWm).1, ((C.pre hW hS av).2 U hU hWm).2, aoW.moved hWm.alike hao⟩⟩
theorem v_callINX (C : Cx p l e R s m args below meth c cc nL own G A) (hao : aoW s) {idx b : Nat} {y : MethodName} {cb : ByteArray} {maxL : Nat} {nargs d mc ms : Nat} {f : HS → Prop} (as : List Value) (hM : cI l y cb maxL d (.ref b :: as) S (pV f) mc ms) (hL : MN own idx y cb maxL none nargs) (hL2 : Cond.instanceMethod y ∈ wsG) (hy1 : y.name = "<init>") (hn : as.length = nargs) (hst : (st.map fun v => v.category).sum ≤ 8) (hfr : d + 1 ≤ R.frames) (hlo : 8 + (maxL + 11) + 40 * d ≤ R.locals) (hcl : k + mc ≤ R.cells) (hsl : n + ms ≤ R.slots) (hd : decode cc pc = .ok (.invokespecial idx, 3)) (kk : ∀ (u : HS), f u → V p l e R s m args below meth c nL G A u (k + mc) (n + ms) Q (pc + 3) lv st) (st0 : List Value) (hst0 : st0 = as.reverse ++ .ref b :: st) : V p l e R s m args below meth c nL G A S k n Q pc lv st0 := by
  intro H locs ls hW hS hv
  subst hst0
  have hfr9 := C.fr hW hS
  refine g_call (va_runIN (As := as) (rest := st) C.fix (hM G H.size) ⟨hL.cn C hfr hlo, hy1, C.2.2.2.2.1 _ hL2⟩ (C.preX hao hW hS (.ref b :: as)) rfl hn hv.1 rfl (lv_room hst) hd ⟨hcl, hsl⟩) hS (fun q _ h => hfr9 q h) hfr9 (fun v u t H1 locs1 ht _ hp hB _ _ hS1 => ?_)
  obtain ⟨rfl, hp⟩ := hp
  subst ht
  exact kk u hp _ locs1 ls (hB.1.weaken (fun q hq => hfr9 q (hB.1.dom hq).1)) hS1 hv
theorem v_newq2 (C : Cx p l e R s m args below meth c cc nL own G A) {kd idx : Nat} {x : Int32} {C0 : String} (N : Nat) (hk : (kd = 13 ∧ C0 = RX0) ∨ (kd = 14 ∧ C0 = RX2) ∨ (kd = 15 ∧ C0 = RX3)) (hl : Cond.classLink own idx C0 ∈ wsG) (hov : va_AO C0 s) (hn : ¬ x < 0) (hx : x.toNatClampNeg = N) (hb : N ≤ 100000000) (hc : k + 1 ≤ R.cells) (hs : n + N ≤ R.slots) (hd : decode cc pc = .ok (.anewarray idx, 3)) (kk : ∀ q : Nat, hK S q = 0 → V p l e R s m args below meth c nL G A (nA S q kd N) (k + 1) (n + N) Q (pc + 3) lv (.ref q :: st)) : V p l e R s m args below meth c nL G A S k n Q pc lv (.int x :: st) := by
  intro H locs ls hW hS hv
  obtain ⟨ws, hP, hD, hL⟩ := id hW
  have hKK := C.2.2.2.2.2.2.1.1
  have htt : (tysG G)[kd - 10]? = some (G.2.1 kd, .object C0) := by rcases hk with ⟨rfl, rfl⟩ | ⟨rfl, rfl⟩ | ⟨rfl, rfl⟩ <;> rfl
  have h10 : 10 ≤ kd := by omega
  have ha0 : cA0 kd N = (N, .inr (.inr (.inr (.inr (fun _ => none))))) := by rcases hk with ⟨rfl, rfl⟩ | ⟨rfl, rfl⟩ | ⟨rfl, rfl⟩ <;> rfl
  refine va_newq C.1 C.2.1 C.2.2.2.1 (C.2.2.2.2.1 _ hl) hov hKK hP hD hS C.2.2.2.2.2.2.2.2 hn hx (by omega) hc hs hd (fun q cQ H1 hK1 hP1 hD1 hS1 => ?_)
  have hf := wfresh (H1 := H1) hD1 hL
  obtain ⟨kA, comp, e1, e2, e3, e4⟩ := (hK1.2 (tysG G).length (cQ, .object C0) (by rw [List.getElem?_append_right (Nat.le_refl _)]; simp)).2
  obtain ⟨kA', comp', g1, g2, g3, g4⟩ := (hKK.2 _ _ htt).2
  have e : cQ = G.2.1 kd := Option.some.inj (e4.symm.trans g4)
  subst e
  rw [← ha0] at hP1 hD1
  exact kk q hf H1 locs ls ⟨_, hP1, hD1, wL_congr (wL_push hL (cE_none.mpr hf)) (fun b => cE_nA h10 b)⟩ hS1 hv
end MNA
/-! ## what is made in a constructor: x0 the object, L the rows in its fields, g its ints -/
def Ini (kr : Nat) (S0 T : HS) (x0 : Nat) (L : List (Nat × Nat × Nat × Nat)) (g : Nat → Int32) : Prop :=
  hK T x0 = kr ∧ (∀ f, hI T f x0 = g f) ∧ (∀ q ∈ L, hR T q.1 x0 = some q.2.1 ∧ hK T q.2.1 = q.2.2.1 ∧ q.2.2.1 ≠ 0 ∧ q.2.1 ≠ x0 ∧ hN T q.2.1 = q.2.2.2 ∧ (∀ z, aI T q.2.1 z = 0) ∧ hK S0 q.2.1 = 0) ∧ (L.map (fun q => q.2.1)).Nodup ∧ Old S0 T
theorem Ini.new {S0 : HS} {x0 kr : Nat} (h : hK S0 x0 = 0) : Ini kr S0 (nO S0 x0 kr) x0 [] (fun _ => 0) := ⟨hK_nO1, fun f => hI_nO1, fun q hq => absurd hq List.not_mem_nil, List.nodup_nil, Old.newO h⟩
theorem Ini.int {S0 T : HS} {x0 kr f : Nat} {v : Int32} {L : List (Nat × Nat × Nat × Nat)} {g : Nat → Int32} (h0 : hK S0 x0 = 0) (h : Ini kr S0 T x0 L g) : Ini kr S0 (sI T f x0 v) x0 L (fun f' => if f' = f then v else g f') := by
  obtain ⟨h1, h2, h3, h4, h5⟩ := h
  refine ⟨h1, fun f' => ?_, h3, h4, Old.pI h0 h5⟩
  show hI (sI T f x0 v) f' x0 = if f' = f then v else g f'
  by_cases e : f' = f
  · rw [if_pos e, e]; exact hI_sI1
  · rw [if_neg e, hI_sI2 (fun z => e z.1)]; exact h2 f'
theorem Ini.arr {S0 T : HS} {x0 kr f b kd n : Nat} {L : List (Nat × Nat × Nat × Nat)} {g : Nat → Int32} (h0 : hK S0 x0 = 0) (h : Ini kr S0 T x0 L g) (hr : kr ≠ 0) (hb : hK T b = 0) (hkd : kd ≠ 0) (hf : ∀ q ∈ L, q.1 ≠ f) : Ini kr S0 (sR (nA T b kd n) f x0 (some b)) x0 ((f, b, kd, n) :: L) g := by
  obtain ⟨h1, h2, h3, h4, h5⟩ := h
  have hx : x0 ≠ b := fun z => hr (by rw [← h1, z]; exact hb)
  have hbS : hK S0 b = 0 := Classical.byContradiction fun z => z (by rw [← (h5 b z).1]; exact hb)
  refine ⟨(hK_nA2 (kd := kd) (n := n) hx).trans h1, h2, fun q hq => ?_, ?_, Old.pR h0 (h5.tr (Old.newA hb))⟩
  · rcases List.mem_cons.mp hq with rfl | hq
    · exact ⟨hR_sR1, hK_nA1 (kd := kd) (n := n), hkd, hx.symm, hN_nA1 (kd := kd) (n := n), fun z => aI_nA1 (kd := kd) (n := n), hbS⟩
    · obtain ⟨a1, a2, a3, a4, a5, a6, a7⟩ := h3 q hq
      have hne : q.2.1 ≠ b := fun z => a3 (by rw [← a2, z]; exact hb)
      exact ⟨(hR_sR2 (fun z => hf q hq z.1)).trans a1, (hK_nA2 (kd := kd) (n := n) hne).trans a2, a3, a4, (hN_nA2 (kd := kd) (n := n) hne).trans a5, fun z => (congrFun (aI_nA2 (kd := kd) (n := n) hne) z).trans (a6 z), a7⟩
  · rw [List.map_cons, List.nodup_cons]
    refine ⟨fun hm => ?_, h4⟩
    obtain ⟨q, hq, e⟩ := List.mem_map.mp hm
    obtain ⟨a1, a2, a3, -⟩ := h3 q hq
    exact a3 (by rw [← a2, e]; exact hb)
theorem nd_inj {l : List Nat} (h : l.Nodup) {i j : Nat} (hi : i < l.length) (hj : j < l.length) (e : l.getD i 0 = l.getD j 0) : i = j := by
  rw [List.getD_eq_getElem?_getD, List.getD_eq_getElem?_getD, List.getElem?_eq_getElem hi, List.getElem?_eq_getElem hj] at e
  have e2 : l[i] = l[j] := e
  have hp := List.pairwise_iff_getElem.mp h
  rcases Nat.lt_trichotomy i j with z | z | z
  · exact absurd e2 (hp i j hi hj z)
  · exact z
  · exact absurd e2.symm (hp j i hj hi z)
