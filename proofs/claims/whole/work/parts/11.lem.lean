theorem hI_sI1 {S : HS} {f a : Nat} {v : Int32} : hI (sI S f a v) f a = v := by simp [hI, sI, u2]
theorem hI_sI2 {S : HS} {f a f' a' : Nat} {v : Int32} (h : ¬ (f' = f ∧ a' = a)) : hI (sI S f a v) f' a' = hI S f' a' := by
  show (if f' = f ∧ a' = a then v else _) = _
  rw [if_neg h]
  rfl
theorem hI_nO1 {S : HS} {f a kd : Nat} : hI (nO S a kd) f a = 0 := by simp [hI, nO, uz]
theorem hI_nO2 {S : HS} {f a a' kd : Nat} (h : a' ≠ a) : hI (nO S a kd) f a' = hI S f a' := by
  show (if a' = a then _ else _) = _
  rw [if_neg h]
  rfl
theorem hJ_sJ1 {S : HS} {f a : Nat} {v : Int64} : hJ (sJ S f a v) f a = v := by simp [hJ, sJ, u2]
theorem hJ_sJ2 {S : HS} {f a f' a' : Nat} {v : Int64} (h : ¬ (f' = f ∧ a' = a)) : hJ (sJ S f a v) f' a' = hJ S f' a' := by
  show (if f' = f ∧ a' = a then v else _) = _
  rw [if_neg h]
  rfl
theorem hJ_nO1 {S : HS} {f a kd : Nat} : hJ (nO S a kd) f a = 0 := by simp [hJ, nO, uz]
theorem hJ_nO2 {S : HS} {f a a' kd : Nat} (h : a' ≠ a) : hJ (nO S a kd) f a' = hJ S f a' := by
  show (if a' = a then _ else _) = _
  rw [if_neg h]
  rfl
theorem hR_sR1 {S : HS} {f a : Nat} {v : Option Nat} : hR (sR S f a v) f a = v := by simp [hR, sR, u2]
theorem hR_sR2 {S : HS} {f a f' a' : Nat} {v : Option Nat} (h : ¬ (f' = f ∧ a' = a)) : hR (sR S f a v) f' a' = hR S f' a' := by
  show (if f' = f ∧ a' = a then v else _) = _
  rw [if_neg h]
  rfl
theorem hR_nO1 {S : HS} {f a kd : Nat} : hR (nO S a kd) f a = none := by simp [hR, nO, uz]
theorem hR_nO2 {S : HS} {f a a' kd : Nat} (h : a' ≠ a) : hR (nO S a kd) f a' = hR S f a' := by
  show (if a' = a then _ else _) = _
  rw [if_neg h]
  rfl
theorem hK_nO1 {S : HS} {a kd : Nat} : hK (nO S a kd) a = kd := by simp [hK, nO, va_up]
theorem hK_nO2 {S : HS} {a b kd : Nat} (h : b ≠ a) : hK (nO S a kd) b = hK S b := by simp [hK, nO, va_up, h]
theorem hK_nA1 {S : HS} {a kd n : Nat} : hK (nA S a kd n) a = kd := by simp [hK, nA, va_up]
theorem hK_nA2 {S : HS} {a b kd n : Nat} (h : b ≠ a) : hK (nA S a kd n) b = hK S b := by simp [hK, nA, va_up, h]
theorem ne_fresh {S : HS} {a b kd : Nat} (hb : hK S b = kd) (h0 : 0 < kd) (ha : hK S a = 0) : b ≠ a := fun q => by rw [q, ha] at hb; omega
theorem ne_kinds {S : HS} {a b x y : Nat} (ha : hK S a = x) (hb : hK S b = y) (h : x ≠ y) : a ≠ b := fun q => h (by rw [← ha, ← hb, q])
theorem kle {S : HS} {a kd : Nat} (h : hK S a = kd) (h1 : 10 ≤ kd) : 10 ≤ hK S a := by rw [h]; exact h1
theorem kge {S : HS} {a kd : Nat} (h : hK S a = kd) (h1 : kd ≤ 18) : hK S a ≤ 18 := by rw [h]; exact h1
theorem klt {S : HS} {a kd : Nat} (h : hK S a = kd) (h1 : 12 < kd) : 12 < hK S a := by rw [h]; exact h1
theorem kgt {S : HS} {a kd : Nat} (h : hK S a = kd) (h1 : kd < 18) : hK S a < 18 := by rw [h]; exact h1
/-- 1 where it holds, 0 where not -/
def bI (q : Prop) [Decidable q] : Int32 := if q then 1 else 0
theorem bI1 {q : Prop} [Decidable q] (h : q) : bI q = 1 := if_pos h
theorem bI0 {q : Prop} [Decidable q] (h : ¬ q) : bI q = 0 := if_neg h
theorem bI_nar (q : Prop) [Decidable q] : narrow .boolean (.int (bI q)) = .int (bI q) := by unfold bI; split <;> rfl
section LEM
variable {p : Program} {l : Launch} {e : Env} {R : Room} {s : State} {m : MethodId} {args : Array Value} {below : List Frame} {meth : Method} {c : Code} {cc : ByteArray} {nL : Nat} {own : String} {G : GT} {A : Nat → Prop} {S : HS} {k n : Nat} {Q : State → Prop} {pc : Nat} {lv lv' : List (Nat × Value)} {st : List Value}
theorem v_topi {x : Int32} (kk : ∀ y : Int32, x = y → V p l e R s m args below meth c nL G A (S) (k) (n) Q (pc) (lv) (.int y :: st)) : V p l e R s m args below meth c nL G A (S) (k) (n) Q (pc) (lv) (.int x :: st) := kk x rfl
theorem v_topl {x : Int64} (kk : ∀ y : Int64, x = y → V p l e R s m args below meth c nL G A (S) (k) (n) Q (pc) (lv) (.long y :: st)) : V p l e R s m args below meth c nL G A (S) (k) (n) Q (pc) (lv) (.long x :: st) := kk x rfl
theorem v_max (C : Cx p l e R s m args below meth c cc nL own G A) {idx : Nat} {x y : Int32} (hJ : JM own idx Lib.Math.max.name Lib.Math.max.code 2 (some .int)) (hRf : 1 ≤ R.frames) (hst : (st.map fun v => v.category).sum ≤ 8) (hRl : 21 ≤ R.locals) (hkc : k ≤ R.cells) (hns : n ≤ R.slots) (hd : decode cc pc = .ok (.invokestatic idx, 3)) (kk : V p l e R s m args below meth c nL G A (S) (k) (n) Q (pc + 3) (lv) (.int (if x < y then y else x) :: st)) : V p l e R s m args below meth c nL G A (S) (k) (n) Q (pc) (lv) (.int y :: .int x :: st) := fun H locs ls hW hS hv =>
  va_mmax C.1 C.2.1 (C.2.2.1.trans hv.1.symm) C.2.2.2.1 (C.2.2.2.2.1 _ hJ.1) (C.2.2.2.2.1 _ hJ.2.1) (C.2.2.2.2.1 _ hJ.2.2.1) (C.2.2.2.2.1 _ hJ.2.2.2) hRf (by omega) hkc hns hd (kk H locs ls hW hS hv)
theorem v_min (C : Cx p l e R s m args below meth c cc nL own G A) {idx : Nat} {x y : Int32} (hJ : JM own idx Lib.Math.min.name Lib.Math.min.code 2 (some .int)) (hRf : 1 ≤ R.frames) (hst : (st.map fun v => v.category).sum ≤ 8) (hRl : 21 ≤ R.locals) (hkc : k ≤ R.cells) (hns : n ≤ R.slots) (hd : decode cc pc = .ok (.invokestatic idx, 3)) (kk : V p l e R s m args below meth c nL G A (S) (k) (n) Q (pc + 3) (lv) (.int (if y < x then y else x) :: st)) : V p l e R s m args below meth c nL G A (S) (k) (n) Q (pc) (lv) (.int y :: .int x :: st) := fun H locs ls hW hS hv =>
  va_mmin C.1 C.2.1 (C.2.2.1.trans hv.1.symm) C.2.2.2.1 (C.2.2.2.2.1 _ hJ.1) (C.2.2.2.2.1 _ hJ.2.1) (C.2.2.2.2.1 _ hJ.2.2.1) (C.2.2.2.2.1 _ hJ.2.2.2) hRf (by omega) hkc hns hd (kk H locs ls hW hS hv)
theorem v_abs (C : Cx p l e R s m args below meth c cc nL own G A) {idx : Nat} {x : Int32} (hJ : JM own idx Lib.Math.abs.name Lib.Math.abs.code 1 (some .int)) (hRf : 1 ≤ R.frames) (hst : (st.map fun v => v.category).sum ≤ 8) (hRl : 21 ≤ R.locals) (hkc : k ≤ R.cells) (hns : n ≤ R.slots) (hd : decode cc pc = .ok (.invokestatic idx, 3)) (kk : V p l e R s m args below meth c nL G A (S) (k) (n) Q (pc + 3) (lv) (.int (if 0 ≤ x then x else 0 - x) :: st)) : V p l e R s m args below meth c nL G A (S) (k) (n) Q (pc) (lv) (.int x :: st) := fun H locs ls hW hS hv =>
  va_mabs C.1 C.2.1 (C.2.2.1.trans hv.1.symm) C.2.2.2.1 (C.2.2.2.2.1 _ hJ.1) (C.2.2.2.2.1 _ hJ.2.1) (C.2.2.2.2.1 _ hJ.2.2.1) (C.2.2.2.2.1 _ hJ.2.2.2) hRf (by omega) hkc hns hd (kk H locs ls hW hS hv)
end LEM
