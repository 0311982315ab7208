theorem hI_sI1 {S : HS} {f a : Nat} {v : Int32} : hI (sI S f a v) f a = v := by simp [hI, sI, u2]
theorem hI_sI2 {S : HS} {f a f' a' : Nat} {v : Int32} (h : ¬ (f' = f ∧ a' = a)) : hI (sI S f a v) f' a' = hI S f' a' := by
  show (if f' = f ∧ a' = a then v else _) = _
  rw [if_neg h]
  rfl
theorem hI_nO1 {S : HS} {f a kd : Nat} : hI (nO S a kd) f a = 0 := by simp [hI, nO, uz]
theorem hI_nO2 {S : HS} {f a a' kd : Nat} (h : a' ≠ a) : hI (nO S a kd) f a' = hI S f a' := by
  show (if a' = a then _ else _) = _
  rw [if_neg h]
  rfl
theorem hJ_sJ1 {S : HS} {f a : Nat} {v : Int64} : hJ (sJ S f a v) f a = v := by simp [hJ, sJ, u2]
theorem hJ_sJ2 {S : HS} {f a f' a' : Nat} {v : Int64} (h : ¬ (f' = f ∧ a' = a)) : hJ (sJ S f a v) f' a' = hJ S f' a' := by
  show (if f' = f ∧ a' = a then v else _) = _
  rw [if_neg h]
  rfl
theorem hJ_nO1 {S : HS} {f a kd : Nat} : hJ (nO S a kd) f a = 0 := by simp [hJ, nO, uz]
theorem hJ_nO2 {S : HS} {f a a' kd : Nat} (h : a' ≠ a) : hJ (nO S a kd) f a' = hJ S f a' := by
  show (if a' = a then _ else _) = _
  rw [if_neg h]
  rfl
theorem hR_sR1 {S : HS} {f a : Nat} {v : Option Nat} : hR (sR S f a v) f a = v := by simp [hR, sR, u2]
theorem hR_sR2 {S : HS} {f a f' a' : Nat} {v : Option Nat} (h : ¬ (f' = f ∧ a' = a)) : hR (sR S f a v) f' a' = hR S f' a' := by
  show (if f' = f ∧ a' = a then v else _) = _
  rw [if_neg h]
  rfl
theorem hR_nO1 {S : HS} {f a kd : Nat} : hR (nO S a kd) f a = none := by simp [hR, nO, uz]
theorem hR_nO2 {S : HS} {f a a' kd : Nat} (h : a' ≠ a) : hR (nO S a kd) f a' = hR S f a' := by
  show (if a' = a then _ else _) = _
  rw [if_neg h]
  rfl
theorem hK_nO1 {S : HS} {a kd : Nat} : hK (nO S a kd) a = kd := by simp [hK, nO, va_up]
theorem hK_nO2 {S : HS} {a b kd : Nat} (h : b ≠ a) : hK (nO S a kd) b = hK S b := by simp [hK, nO, va_up, h]
theorem hK_nA1 {S : HS} {a kd n : Nat} : hK (nA S a kd n) a = kd := by simp [hK, nA, va_up]
theorem hK_nA2 {S : HS} {a b kd n : Nat} (h : b ≠ a) : hK (nA S a kd n) b = hK S b := by simp [hK, nA, va_up, h]
theorem ne_fresh {S : HS} {a b kd : Nat} (hb : hK S b = kd) (h0 : 0 < kd) (ha : hK S a = 0) : b ≠ a := fun q => by rw [q, ha] at hb; omega
theorem ne_kinds {S : HS} {a b x y : Nat} (ha : hK S a = x) (hb : hK S b = y) (h : x ≠ y) : a ≠ b := fun q => h (by rw [← ha, ← hb, q])
theorem kle {S : HS} {a kd : Nat} (h : hK S a = kd) (h1 : 10 ≤ kd) : 10 ≤ hK S a := by rw [h]; exact h1
theorem kge {S : HS} {a kd : Nat} (h : hK S a = kd) (h1 : kd ≤ 18) : hK S a ≤ 18 := by rw [h]; exact h1
theorem klt {S : HS} {a kd : Nat} (h : hK S a = kd) (h1 : 12 < kd) : 12 < hK S a := by rw [h]; exact h1
theorem kgt {S : HS} {a kd : Nat} (h : hK S a = kd) (h1 : kd < 18) : hK S a < 18 := by rw [h]; exact h1
theorem nlt {a b : Nat} (h : ¬ nI b ≤ nI a) (ha : a < 2 ^ 31) : a < b := by
  rcases Nat.lt_or_ge a b with z | z
  · exact z
  · exact absurd (nI_le z ha) h
theorem nge {a b : Nat} (h : nI b ≤ nI a) (hb : b < 2 ^ 31) : b ≤ a := by
  rcases Nat.lt_or_ge a b with z | z
  · exact absurd h (nI_ge z hb)
  · exact z
/-- 1 where it holds, 0 where not -/
def bI (q : Prop) [Decidable q] : Int32 := if q then 1 else 0
theorem bI1 {q : Prop} [Decidable q] (h : q) : bI q = 1 := if_pos h
theorem bI0 {q : Prop} [Decidable q] (h : ¬ q) : bI q = 0 := if_neg h
theorem bI_nar (q : Prop) [Decidable q] : narrow .boolean (.int (bI q)) = .int (bI q) := by unfold bI; split <;> rfl
section LEM
variable {p : Program} {l : Launch} {e : Env} {R : Room} {s : State} {m : MethodId} {args : Array Value} {below : List Frame} {meth : Method} {c : Code} {cc : ByteArray} {nL : Nat} {own : String} {G : GT} {A : Nat → Prop} {S : HS} {k n : Nat} {Q : State → Prop} {pc : Nat} {lv lv' : List (Nat × Value)} {st : List Value}
theorem v_topi {x : Int32} (kk : ∀ y : Int32, x = y → V p l e R s m args below meth c nL G A (S) (k) (n) Q (pc) (lv) (.int y :: st)) : V p l e R s m args below meth c nL G A (S) (k) (n) Q (pc) (lv) (.int x :: st) := kk x rfl
theorem v_topl {x : Int64} (kk : ∀ y : Int64, x = y → V p l e R s m args below meth c nL G A (S) (k) (n) Q (pc) (lv) (.long y :: st)) : V p l e R s m args below meth c nL G A (S) (k) (n) Q (pc) (lv) (.long x :: st) := kk x rfl
theorem v_max (C : Cx p l e R s m args below meth c cc nL own G A) {idx : Nat} {x y : Int32} (hJ : JM own idx Lib.Math.max.name Lib.Math.max.code 2 (some .int)) (hRf : 1 ≤ R.frames) (hst : (st.map fun v => v.category).sum ≤ 8) (hRl : 21 ≤ R.locals) (hkc : k ≤ R.cells) (hns : n ≤ R.slots) (hd : decode cc pc = .ok (.invokestatic idx, 3)) (kk : V p l e R s m args below meth c nL G A (S) (k) (n) Q (pc + 3) (lv) (.int (if x < y then y else x) :: st)) : V p l e R s m args below meth c nL G A (S) (k) (n) Q (pc) (lv) (.int y :: .int x :: st) := fun H locs ls hW hS hv =>
  va_mmax C.1 C.2.1 (C.2.2.1.trans hv.1.symm) C.2.2.2.1 (C.2.2.2.2.1 _ hJ.1) (C.2.2.2.2.1 _ hJ.2.1) (C.2.2.2.2.1 _ hJ.2.2.1) (C.2.2.2.2.1 _ hJ.2.2.2) hRf (by omega) hkc hns hd (kk H locs ls hW hS hv)
theorem v_min (C : Cx p l e R s m args below meth c cc nL own G A) {idx : Nat} {x y : Int32} (hJ : JM own idx Lib.Math.min.name Lib.Math.min.code 2 (some .int)) (hRf : 1 ≤ R.frames) (hst : (st.map fun v => v.category).sum ≤ 8) (hRl : 21 ≤ R.locals) (hkc : k ≤ R.cells) (hns : n ≤ R.slots) (hd : decode cc pc = .ok (.invokestatic idx, 3)) (kk : V p l e R s m args below meth c nL G A (S) (k) (n) Q (pc + 3) (lv) (.int (if y < x then y else x) :: st)) : V p l e R s m args below meth c nL G A (S) (k) (n) Q (pc) (lv) (.int y :: .int x :: st) := fun H locs ls hW hS hv =>
  va_mmin C.1 C.2.1 (C.2.2.1.trans hv.1.symm) C.2.2.2.1 (C.2.2.2.2.1 _ hJ.1) (C.2.2.2.2.1 _ hJ.2.1) (C.2.2.2.2.1 _ hJ.2.2.1) (C.2.2.2.2.1 _ hJ.2.2.2) hRf (by omega) hkc hns hd (kk H locs ls hW hS hv)
theorem v_abs (C : Cx p l e R s m args below meth c cc nL own G A) {idx : Nat} {x : Int32} (hJ : JM own idx Lib.Math.abs.name Lib.Math.abs.code 1 (some .int)) (hRf : 1 ≤ R.frames) (hst : (st.map fun v => v.category).sum ≤ 8) (hRl : 21 ≤ R.locals) (hkc : k ≤ R.cells) (hns : n ≤ R.slots) (hd : decode cc pc = .ok (.invokestatic idx, 3)) (kk : V p l e R s m args below meth c nL G A (S) (k) (n) Q (pc + 3) (lv) (.int (if 0 ≤ x then x else 0 - x) :: st)) : V p l e R s m args below meth c nL G A (S) (k) (n) Q (pc) (lv) (.int x :: st) := fun H locs ls hW hS hv =>
  va_mabs C.1 C.2.1 (C.2.2.1.trans hv.1.symm) C.2.2.2.1 (C.2.2.2.2.1 _ hJ.1) (C.2.2.2.2.1 _ hJ.2.1) (C.2.2.2.2.1 _ hJ.2.2.1) (C.2.2.2.2.1 _ hJ.2.2.2) hRf (by omega) hkc hns hd (kk H locs ls hW hS hv)
theorem v_castj (C : Cx p l e R s m args below meth c cc nL own G A) {a : Nat} {i : Int32} {x : Int32} (j : Nat) (hj : i.toNatClampNeg = j) (hk : hK S a = 11) (hi : vp_in i (hN S a)) (hc : vp_nar .char x = x) (hd : decode cc pc = .ok (.castore, 1)) (kk : V p l e R s m args below meth c nL G A (tI S a j x) (k) (n) Q (pc + 1) (lv) (st)) : V p l e R s m args below meth c nL G A (S) (k) (n) Q (pc) (lv) (.int x :: .int i :: .ref a :: st) := by
  subst hj
  exact v_cast C hk hi hc hd kk
theorem v_iastj (C : Cx p l e R s m args below meth c cc nL own G A) {a : Nat} {i : Int32} {x : Int32} (j : Nat) (hj : i.toNatClampNeg = j) (hk : hK S a = 10) (hi : vp_in i (hN S a)) (hd : decode cc pc = .ok (.iastore, 1)) (kk : V p l e R s m args below meth c nL G A (tI S a j x) (k) (n) Q (pc + 1) (lv) (st)) : V p l e R s m args below meth c nL G A (S) (k) (n) Q (pc) (lv) (.int x :: .int i :: .ref a :: st) := by
  subst hj
  exact v_iast C hk hi hd kk
theorem v_lastj (C : Cx p l e R s m args below meth c cc nL own G A) {a : Nat} {i : Int32} {x : Int64} (j : Nat) (hj : i.toNatClampNeg = j) (hk : hK S a = 12) (hi : vp_in i (hN S a)) (hd : decode cc pc = .ok (.lastore, 1)) (kk : V p l e R s m args below meth c nL G A (tJ S a j x) (k) (n) Q (pc + 1) (lv) (st)) : V p l e R s m args below meth c nL G A (S) (k) (n) Q (pc) (lv) (.long x :: .int i :: .ref a :: st) := by
  subst hj
  exact v_last C hk hi hd kk
theorem v_dastj (C : Cx p l e R s m args below meth c cc nL own G A) {a : Nat} {i : Int32} {x : UInt64} (j : Nat) (hj : i.toNatClampNeg = j) (hk : hK S a = 18) (hi : vp_in i (hN S a)) (hd : decode cc pc = .ok (.dastore, 1)) (kk : V p l e R s m args below meth c nL G A (tD S a j x) (k) (n) Q (pc + 1) (lv) (st)) : V p l e R s m args below meth c nL G A (S) (k) (n) Q (pc) (lv) (.double x :: .int i :: .ref a :: st) := by
  subst hj
  exact v_dast C hk hi hd kk
theorem v_aastj (C : Cx p l e R s m args below meth c cc nL own G A) {a b kd ke : Nat} {i : Int32} (j : Nat) (hj : i.toNatClampNeg = j) (hk : hK S a = kd) (hb : hK S b = ke) (hp : (kd = 13 ∧ ke = 1) ∨ (kd = 14 ∧ ke = 3) ∨ (kd = 15 ∧ ke = 4)) (hi : vp_in i (hN S a)) (hd : decode cc pc = .ok (.aastore, 1)) (kk : V p l e R s m args below meth c nL G A (tR S a j (some b)) (k) (n) Q (pc + 1) (lv) (st)) : V p l e R s m args below meth c nL G A (S) (k) (n) Q (pc) (lv) (.ref b :: .int i :: .ref a :: st) := by
  subst hj
  exact v_aast C hk hb hp hi hd kk
theorem v_aastCj (C : Cx p l e R s m args below meth c cc nL own G A) {a b : Nat} {i : Int32} (j : Nat) (hj : i.toNatClampNeg = j) (hk : hK S a = 17) (hb : hK S b = 11) (hi : vp_in i (hN S a)) (hd : decode cc pc = .ok (.aastore, 1)) (kk : V p l e R s m args below meth c nL G A (tR S a j (some b)) (k) (n) Q (pc + 1) (lv) (st)) : V p l e R s m args below meth c nL G A (S) (k) (n) Q (pc) (lv) (.ref b :: .int i :: .ref a :: st) := by
  subst hj
  exact v_aastC C hk hb hi hd kk
/-- what links a call of a nest mate's private method -/
def MN (own : String) (idx : Nat) (y : MethodName) (cb : ByteArray) (maxL : Nat) (ret : Option FieldType) (nargs : Nat) : Prop :=
  Cond.methodLinkNest own idx y "TrackFusion" ∈ wsF ∧ Cond.initialized y.cls ∈ wsG ∧ Cond.code y cb maxL ret ∈ wsG ∧ (y.cls ≠ "java/lang/invoke/MethodHandle" ∧ y.cls ≠ "java/lang/invoke/VarHandle" ∧ (parseMethodDescriptor y.desc).map (fun d => d.parameters.length) = some nargs)
theorem MN.cn {idx : Nat} {y : MethodName} {cb : ByteArray} {maxL : Nat} {ret : Option FieldType} {nargs d mc ms : Nat} (C : Cx p l e R s m args below meth c cc nL own G A) (hL : MN own idx y cb maxL ret nargs) (hfr : d + 1 ≤ R.frames) (hlo : 8 + (maxL + 11) + 40 * d ≤ R.locals) : va_CN R s args own idx y "TrackFusion" cb maxL ret (.code y cb maxL ret :: wsG) (rmD d mc ms) mc ms nargs :=
  va_cnB nargs C.2.2.2.2.1 (goodG hL.2.2.1) rfl rfl rfl (C.2.2.2.2.2.2.2.1.2.2.2.1 _ hL.1) (C.2.2.2.2.1 _ hL.2.1) hL.2.2.2 ⟨hfr, hlo⟩
theorem v_callSNl (C : Cx p l e R s m args below meth c cc nL own G A) {idx : Nat} {y : MethodName} {cb : ByteArray} {maxL : Nat} {ret : Option FieldType} {nargs d mc ms : Nat} {f : Int64 → HS → Prop} (as : List Value) (hM : cM l y cb maxL ret d as S (pL f) mc ms) (hL : MN own idx y cb maxL ret nargs) (hL2 : Cond.static y ∈ wsG) (hn : as.length = nargs) (hst : (st.map fun v => v.category).sum ≤ 8) (hfr : d + 1 ≤ R.frames) (hlo : 8 + (maxL + 11) + 40 * d ≤ R.locals) (hcl : k + mc ≤ R.cells) (hsl : n + ms ≤ R.slots) (hd : decode cc pc = .ok (.invokestatic idx, 3)) (kk : ∀ (r : Int64) (u : HS), f r u → V p l e R s m args below meth c nL G A (u) (k + mc) (n + ms) Q (pc + 3) (lv) (.long r :: st)) (st0 : List Value) (hst0 : st0 = as.reverse ++ st) : V p l e R s m args below meth c nL G A (S) (k) (n) Q (pc) (lv) (st0) := by
  intro H locs ls hW hS hv
  subst hst0
  have hfr9 := C.fr hW hS
  refine g_call (va_runSN (As := as) (rest := st) C.fix (hM G H.size) ⟨hL.cn C hfr hlo, C.2.2.2.2.1 _ hL2, trivial⟩ (C.pre hW hS as) rfl hn hv.1 rfl (lv_room hst) hd ⟨hcl, hsl⟩) hS (fun q _ h => hfr9 q h) hfr9 (fun v u t H1 locs1 ht _ hp hB _ _ hS1 => ?_)
  obtain ⟨r, rfl, hp⟩ := hp
  subst ht
  exact kk r u hp _ locs1 ls (hB.1.weaken (fun q hq => hfr9 q (hB.1.dom hq).1)) hS1 hv
theorem v_callI (C : Cx p l e R s m args below meth c cc nL own G A) {idx b : Nat} {y : MethodName} {cb : ByteArray} {maxL : Nat} {nargs d mc ms : Nat} {f : HS → Prop} (as : List Value) (hM : cM l y cb maxL none d (.ref b :: as) S (pV f) mc ms) (hL : ML own idx y cb maxL none nargs) (hL2 : Cond.instanceMethod y ∈ wsG) (hy1 : y.name = "<init>") (hn : as.length = nargs) (hst : (st.map fun v => v.category).sum ≤ 8) (hfr : d + 1 ≤ R.frames) (hlo : 8 + (maxL + 11) + 40 * d ≤ R.locals) (hcl : k + mc ≤ R.cells) (hsl : n + ms ≤ R.slots) (hd : decode cc pc = .ok (.invokespecial idx, 3)) (kk : ∀ (u : HS), f u → V p l e R s m args below meth c nL G A (u) (k + mc) (n + ms) Q (pc + 3) (lv) (st)) (st0 : List Value) (hst0 : st0 = as.reverse ++ .ref b :: st) : V p l e R s m args below meth c nL G A (S) (k) (n) Q (pc) (lv) (st0) := by
  intro H locs ls hW hS hv
  subst hst0
  have hfr9 := C.fr hW hS
  refine g_call (va_runI (As := as) (rest := st) C.fix (hM G H.size) ⟨hL.callB C hfr hlo, hy1, C.2.2.2.2.1 _ hL2⟩ (C.pre hW hS (.ref b :: as)) rfl hn hv.1 rfl (lv_room hst) hd ⟨hcl, hsl⟩) hS (fun q _ h => hfr9 q h) hfr9 (fun v u t H1 locs1 ht _ hp hB _ _ hS1 => ?_)
  obtain ⟨rfl, hp⟩ := hp
  subst ht
  exact kk u hp _ locs1 ls (hB.1.weaken (fun q hq => hfr9 q (hB.1.dom hq).1)) hS1 hv
theorem v_callIN (C : Cx p l e R s m args below meth c cc nL own G A) {idx b : Nat} {y : MethodName} {cb : ByteArray} {maxL : Nat} {nargs d mc ms : Nat} {f : HS → Prop} (as : List Value) (hM : cM l y cb maxL none d (.ref b :: as) S (pV f) mc ms) (hL : MN own idx y cb maxL none nargs) (hL2 : Cond.instanceMethod y ∈ wsG) (hy1 : y.name = "<init>") (hn : as.length = nargs) (hst : (st.map fun v => v.category).sum ≤ 8) (hfr : d + 1 ≤ R.frames) (hlo : 8 + (maxL + 11) + 40 * d ≤ R.locals) (hcl : k + mc ≤ R.cells) (hsl : n + ms ≤ R.slots) (hd : decode cc pc = .ok (.invokespecial idx, 3)) (kk : ∀ (u : HS), f u → V p l e R s m args below meth c nL G A (u) (k + mc) (n + ms) Q (pc + 3) (lv) (st)) (st0 : List Value) (hst0 : st0 = as.reverse ++ .ref b :: st) : V p l e R s m args below meth c nL G A (S) (k) (n) Q (pc) (lv) (st0) := by
  intro H locs ls hW hS hv
  subst hst0
  have hfr9 := C.fr hW hS
  refine g_call (va_runIN (As := as) (rest := st) C.fix (hM G H.size) ⟨hL.cn C hfr hlo, hy1, C.2.2.2.2.1 _ hL2⟩ (C.pre hW hS (.ref b :: as)) rfl hn hv.1 rfl (lv_room hst) hd ⟨hcl, hsl⟩) hS (fun q _ h => hfr9 q h) hfr9 (fun v u t H1 locs1 ht _ hp hB _ _ hS1 => ?_)
  obtain ⟨rfl, hp⟩ := hp
  subst ht
  exact kk u hp _ locs1 ls (hB.1.weaken (fun q hq => hfr9 q (hB.1.dom hq).1)) hS1 hv
end LEM
theorem mn_RX4_29 : MN RX4 29 yX1_init cX1_init 1 (Option.none : Option Jvm.ClassFile.FieldType) 0 := ⟨wsF_in 79 (by decide +kernel) (by decide +kernel), wsG_in 46 (by decide +kernel) (by decide +kernel), wsG_in 81 (by decide +kernel) (by decide +kernel), by decide +kernel⟩
theorem mn_RX4_50 : MN RX4 50 yX0_init cX0_init 1 (Option.none : Option Jvm.ClassFile.FieldType) 0 := ⟨wsF_in 120 (by decide +kernel) (by decide +kernel), wsG_in 47 (by decide +kernel) (by decide +kernel), wsG_in 122 (by decide +kernel) (by decide +kernel), by decide +kernel⟩
theorem mn_RX4_51 : MN RX4 51 yX2_init cX2_init 1 (Option.none : Option Jvm.ClassFile.FieldType) 0 := ⟨wsF_in 142 (by decide +kernel) (by decide +kernel), wsG_in 48 (by decide +kernel) (by decide +kernel), wsG_in 144 (by decide +kernel) (by decide +kernel), by decide +kernel⟩
theorem mn_RX3_59 : MN RX3 59 yX4_squareSum cX4_squareSum 2 (Option.some Jvm.ClassFile.FieldType.long) 2 := ⟨wsF_in 275 (by decide +kernel) (by decide +kernel), wsG_in 45 (by decide +kernel) (by decide +kernel), wsG_in 225 (by decide +kernel) (by decide +kernel), by decide +kernel⟩
theorem mii_yX4_init : Cond.instanceMethod yX4_init ∈ wsG := wsG_in 66 (by decide +kernel) (by decide +kernel)
theorem mii_yX1_init : Cond.instanceMethod yX1_init ∈ wsG := wsG_in 80 (by decide +kernel) (by decide +kernel)
theorem mii_yX0_init : Cond.instanceMethod yX0_init ∈ wsG := wsG_in 121 (by decide +kernel) (by decide +kernel)
theorem mii_yX2_init : Cond.instanceMethod yX2_init ∈ wsG := wsG_in 143 (by decide +kernel) (by decide +kernel)
theorem mii_yX3_init : Cond.instanceMethod yX3_init ∈ wsG := wsG_in 602 (by decide +kernel) (by decide +kernel)
theorem mii_yX5_init : Cond.instanceMethod yX5_init ∈ wsG := wsG_in 862 (by decide +kernel) (by decide +kernel)
theorem msn_squareSum : Cond.static yX4_squareSum ∈ wsG := wsG_in 224 (by decide +kernel) (by decide +kernel)
