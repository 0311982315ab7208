theorem bitS : ∀ m, m < 64 → ∀ t, t < 6 → ((nI m >>> (nI t &&& 31)) &&& 1) = bI (m.testBit t = true) := by decide +kernel
theorem bitO : ∀ m, m < 64 → ∀ t, t < 6 → (nI m ||| ((1 : Int32) <<< (nI t &&& 31))) = nI (m ||| 2 ^ t) ∧ m ||| 2 ^ t < 64 := by decide +kernel
theorem bitT : ∀ m, m < 64 → ∀ t, t < 6 → ∀ j, j < 6 → (m ||| 2 ^ t).testBit j = (if j = t then true else m.testBit j) := by decide +kernel
/-- all but the choices and the best so far stays -/
def FrE (S T : HS) (ad : AD) : Prop := (∀ a, hK T a = hK S a) ∧ (∀ f a, hR T f a = hR S f a) ∧ (∀ a, hN T a = hN S a) ∧ (∀ f a, hI T f a = hI S f a) ∧ (∀ a, aR T a = aR S a) ∧ (∀ a, a ≠ ad 12 0 → a ≠ ad 13 0 → aI T a = aI S a) ∧ (∀ a, aJ T a = aJ S a) ∧ (∀ f a, f ≠ 12 → hJ T f a = hJ S f a)
theorem FrE.rf {S : HS} {ad : AD} : FrE S S ad := ⟨fun _ => rfl, fun _ _ => rfl, fun _ => rfl, fun _ _ => rfl, fun _ => rfl, fun _ _ _ => rfl, fun _ => rfl, fun _ _ _ => rfl⟩
theorem FrE.tr {S T U : HS} {ad : AD} (h : FrE S T ad) (g : FrE T U ad) : FrE S U ad := ⟨fun a => (g.1 a).trans (h.1 a), fun f a => (g.2.1 f a).trans (h.2.1 f a), fun a => (g.2.2.1 a).trans (h.2.2.1 a), fun f a => (g.2.2.2.1 f a).trans (h.2.2.2.1 f a), fun a => (g.2.2.2.2.1 a).trans (h.2.2.2.2.1 a), fun a h1 h2 => (g.2.2.2.2.2.1 a h1 h2).trans (h.2.2.2.2.2.1 a h1 h2), fun a => (g.2.2.2.2.2.2.1 a).trans (h.2.2.2.2.2.2.1 a), fun f a hf => (g.2.2.2.2.2.2.2 f a hf).trans (h.2.2.2.2.2.2.2 f a hf)⟩
theorem FrE.toX {S T : HS} {ad : AD} (h : FrE S T ad) : FrX S T ad := ⟨h.1, h.2.1, h.2.2.1, fun f a _ _ => h.2.2.2.1 f a, fun a _ => h.2.2.2.2.1 a, h.2.2.2.2.2.1⟩
theorem FrE.aI12 {S : HS} {ad : AD} {j : Nat} {v : Int32} : FrE S (tI S (ad 12 0) j v) ad := ⟨fun _ => rfl, fun _ _ => rfl, fun _ => rfl, fun _ _ => rfl, fun _ => rfl, fun a h1 h2 => aI_tI2 h1, fun _ => rfl, fun _ _ _ => rfl⟩
theorem cm_m1 {z : Int} (h : z = -1 ∨ bd z 0 64000000) (c : lg_cmp (lO z) (-1) = 0) : z = -1 := by
  rcases h with h | h
  · exact h
  · have := (lg_cmp_eq _ _).mp c
    rw [show (-1 : Int64) = lO (-1) from rfl, lO_eq (by unfold bd at *; omega) (by unfold bd at *; omega) (by omega) (by omega)] at this
    exact this
theorem hJ_sJ3 {S : HS} {f a f' a' : Nat} {v : Int64} (h : f' ≠ f) : hJ (sJ S f a v) f' a' = hJ S f' a' := by simp [hJ, sJ, u2, h]
theorem FrE.J12 {S : HS} {ad : AD} {a : Nat} {v : Int64} : FrE S (sJ S 12 a v) ad := ⟨fun _ => rfl, fun _ _ => rfl, fun _ => rfl, fun _ _ => rfl, fun _ => rfl, fun a h1 h2 => rfl, fun _ => rfl, fun f a hf => hJ_sJ3 hf⟩
theorem FrE.rI13 {S : HS} {ad : AD} {r : Nat → Int32} : FrE S (rI S (ad 13 0) r) ad := ⟨fun _ => rfl, fun _ _ => rfl, fun _ => rfl, fun _ _ => rfl, fun _ => rfl, fun a h1 h2 => aI_rI2 h2, fun _ => rfl, fun _ _ _ => rfl⟩
/-- the search's rows, by a table of costs -/
def XN (S : HS) (ad : AD) (nr lc : Nat) (cm : Nat → Nat → Int) (g : Int) : Prop := hI S 5 (ad 8 0) = nI nr ∧ hI S 6 (ad 8 0) = nI lc ∧ hJ S 9 (ad 8 0) = lO g ∧ (∀ r, r < nr → ∀ i, i < lc → aJ S (ad 11 r) i = lO (cm r i))
theorem XN.E {S T : HS} {ad : AD} {nr lc : Nat} {cm : Nat → Nat → Int} {g : Int} (f : FrE S T ad) (h : XN S ad nr lc cm g) : XN T ad nr lc cm g := ⟨(f.2.2.2.1 _ _).trans h.1, (f.2.2.2.1 _ _).trans h.2.1, (f.2.2.2.2.2.2.2 _ _ (by decide)).trans h.2.2.1, fun r hr i hi => (congrFun (f.2.2.2.2.2.2.1 _) _).trans (h.2.2.2 r hr i hi)⟩
/-- what a table of costs keeps to -/
def CMok (nr lc : Nat) (cm : Nat → Nat → Int) (g : Int) : Prop := nr ≤ 4 ∧ lc ≤ 6 ∧ bd g 0 64000000 ∧ (∀ r, r < nr → ∀ i, i < lc → cm r i = -1 ∨ bd (cm r i) 0 64000000)
def BX (S : HS) (ad : AD) (nr : Nat) (b : Option OC) : Prop := match b with
  | none => hJ S 12 (ad 8 0) = lO 1152921504606846976
  | some a => hJ S 12 (ad 8 0) = lO a.1 ∧ bd a.1 0 1000000000 ∧ ∀ j, j < nr → aI S (ad 13 0) j = iO (a.2 j)
theorem BX.of {S T : HS} {ad : AD} {nr : Nat} {b : Option OC} (h : BX S ad nr b) (h1 : hJ T 12 (ad 8 0) = hJ S 12 (ad 8 0)) (h2 : aI T (ad 13 0) = aI S (ad 13 0)) : BX T ad nr b := by
  cases b with
  | none => exact h1.trans h
  | some a => exact ⟨h1.trans h.1, h.2.1, fun j hj => (congrFun h2 j).trans (h.2.2 j hj)⟩
/-- the best so far, as the machine's long -/
theorem BX.le {S : HS} {ad : AD} {nr : Nat} {b : Option OC} {c : Int} (h : BX S ad nr b) (hc : bd c 0 1000000000) (hl : ¬ lg_cmp (lO c) (hJ S 12 (ad 8 0)) < 0) : ∃ a, b = some a ∧ a.1 ≤ c := by
  have hl2 : ¬ lO c < hJ S 12 (ad 8 0) := fun z => hl ((lg_cmp_lt _ _).mpr z)
  cases b with
  | none =>
    have h0 : hJ S 12 (ad 8 0) = lO 1152921504606846976 := h
    rw [h0, lO_lt (by unfold bd at *; omega) (by unfold bd at *; omega) (by omega) (by omega)] at hl2
    unfold bd at hc
    omega
  | some a =>
    obtain ⟨h0, h1, -⟩ := h
    rw [h0, lO_lt (by unfold bd at *; omega) (by unfold bd at *; omega) (by unfold bd at *; omega) (by unfold bd at *; omega)] at hl2
    exact ⟨a, rfl, by omega⟩
theorem BX.gt {S : HS} {ad : AD} {nr : Nat} {b : Option OC} {c : Int} (h : BX S ad nr b) (hc : bd c 0 1000000000) (hl : lg_cmp (lO c) (hJ S 12 (ad 8 0)) < 0) : ∀ a, b = some a → c < a.1 := by
  have hl2 := (lg_cmp_lt _ _).mp hl
  intro a ha
  subst ha
  obtain ⟨h0, h1, -⟩ := h
  rw [h0, lO_lt (by unfold bd at *; omega) (by unfold bd at *; omega) (by unfold bd at *; omega) (by unfold bd at *; omega)] at hl2
  exact hl2
/-- what 'extend' owes with k reports left -/
def ExtOK (l : Launch) (ad : AD) (n nr lc : Nat) (cm : Nat → Nat → Int) (g : Int) (k : Nat) : Prop := ∀ (S : HS) (us : Nat → Bool) (m0 : Nat) (c0 : Int) (tr : Nat → Int) (b : Option OC), XA S ad n → XN S ad nr lc cm g → m0 < 64 → (∀ i, i < lc → m0.testBit i = us i) → bd c0 0 (64000000 * (nr - k : Nat)) → BX S ad nr b → (∀ j, j < nr - k → aI S (ad 12 0) j = iO (tr j)) → cM l yX4_extend cX4_extend 8 (Option.none : Option Jvm.ClassFile.FieldType) (8 + k) [.ref (ad 8 0), .int (nI (nr - k)), .int (nI m0), .long (lO c0)] S (pV fun u => FrE S u ad ∧ (∀ j, j < nr - k → aI u (ad 12 0) j = aI S (ad 12 0) j) ∧ BX u ad nr (upB b c0 (nr - k) tr (opt cm g lc nr k us))) 0 0
theorem leaf {S : HS} {ad : AD} {nr : Nat} {b : Option OC} {c0 : Int} {tr : Nat → Int} (hbx : BX S ad nr b) (hc9 : bd c0 0 1000000000) (c6 : lg_cmp (lO c0) (hJ S 12 (ad 8 0)) < 0) (htr : ∀ j, j < nr - 0 → aI S (ad 12 0) j = iO (tr j)) (h4 : nr ≤ 4) :
    BX (rI (sJ S 12 (ad 8 0) (lO c0)) (ad 13 0) (va_cpy (aI S (ad 12 0)) (aI S (ad 13 0)) 0 0 4)) ad nr (upB b c0 (nr - 0) tr (0, fun _ => -1)) := by
  have e : upB b c0 (nr - 0) tr (0, fun _ => -1) = some (c0 + 0, fun j => if j < nr - 0 then tr j else -1) := by
    cases b with
    | none => rfl
    | some a =>
      show (if c0 + 0 < a.1 then _ else some a) = _
      rw [if_pos (by have := hbx.gt hc9 c6 a rfl; omega)]
  rw [e]
  refine ⟨?_, by unfold bd at *; omega, fun j hj => ?_⟩
  · show hJ (sJ S 12 (ad 8 0) (lO c0)) 12 (ad 8 0) = _
    rw [hJ_sJ1, Int.add_zero]
  · rw [aI_rI1]
    show va_cpy _ _ 0 0 4 j = iO (if j < nr - 0 then tr j else -1)
    unfold va_cpy
    rw [if_pos (by omega), if_pos (by omega)]
    show aI S (ad 12 0) (0 + (j - 0)) = _
    rw [show 0 + (j - 0) = j by omega]
    exact htr j (by omega)
set_option maxRecDepth 100000 in
set_option maxHeartbeats 4000000 in
theorem c_X4_extend0 (l : Launch) (S : HS) (ad : AD) (n nr lc : Nat) (cm : Nat → Nat → Int) (g : Int) (us : Nat → Bool) (m0 : Nat) (c0 : Int) (tr : Nat → Int) (b : Option OC) (hCM : CMok nr lc cm g) (hA : XA S ad n) (hX : XN S ad nr lc cm g) (hm6 : m0 < 64) (hus : ∀ i, i < lc → m0.testBit i = us i) (hc0 : bd c0 0 (64000000 * (nr - 0 : Nat))) (hbx : BX S ad nr b) (htr : ∀ j, j < nr - 0 → aI S (ad 12 0) j = iO (tr j)) : cM l yX4_extend cX4_extend 8 (Option.none : Option Jvm.ClassFile.FieldType) (8 + 0) [.ref (ad 8 0), .int (nI (nr - 0)), .int (nI m0), .long (lO c0)] S (pV fun u => FrE S u ad ∧ (∀ j, j < nr - 0 → aI u (ad 12 0) j = aI S (ad 12 0) j) ∧ BX u ad nr (upB b c0 (nr - 0) tr (opt cm g lc nr 0 us))) 0 0 := by
  refine cM_intro (by decide +kernel) cd_X4_extend (Nat.le_of_ble_eq_true rfl) ?_
  intro pP eE sS mM aA bB tT cC G A C hRT hin
  refine V.lvs (lv2 := [(0, .ref (ad 8 0)), (1, .int (nI (nr - 0))), (2, .int (nI m0)), (3, .long (lO c0))]) rfl ?_
  have hc9 : bd c0 0 1000000000 := by have := hCM.1; unfold bd at *; omega
  refine v_lload_n C 3 rfl rfl dX4_extend_0 ?_
  refine v_aload_n C 0 rfl rfl dX4_extend_1 ?_
  refine v_getJ C (hJ S 12 (ad 8 0)) fl_RX4_147 hA.k8 rfl dX4_extend_2 ?_
  refine v_lcmp C dX4_extend_5 ?_
  refine v_if_lt C 10 (by decide) dX4_extend_6 (fun c6 => ?_) (fun c6 => ?_)
  · refine v_iload_n C 1 rfl rfl dX4_extend_10 ?_
    refine v_if_lt C 27 (by decide) dX4_extend_11 (fun q => (nI_pos (by have := hCM.1; omega) q).elim) (fun c11 => ?_)
    refine v_iload_n C 1 rfl rfl dX4_extend_14 ?_
    refine v_aload_n C 0 rfl rfl dX4_extend_15 ?_
    refine v_getI C (nI nr) fl_RX4_211 hA.k8 hX.1 dX4_extend_16 ?_
    refine v_icmp_ge C 27 (by decide) dX4_extend_19 (fun c19 => ?_) (fun q => (q (nI_le (by omega) (by have := hCM.1; omega))).elim)
    refine v_aload_n C 0 rfl rfl dX4_extend_27 ?_
    refine v_lload_n C 3 rfl rfl dX4_extend_28 ?_
    refine v_callVv C (st := []) [.long (lO c0)] (c_X1_keepChoice l S (ad 8 0) (ad 12 0) (ad 13 0) (lO c0) hA.k8 hA.k12 hA.k13 hA.r10 hA.r11 hA.n12 hA.n13) ml_RX4_212 mi_yX1_keepChoice hA.k8 (by decide) (by decide +kernel) rfl (Nat.le_of_ble_eq_true rfl) (by show 3 + 1 ≤ _; simp [rmD]) (by show 8 + (3 + 11) + 40 * 3 ≤ _; simp [rmD]) (Nat.le_of_ble_eq_true rfl) (Nat.le_of_ble_eq_true rfl) dX4_extend_29 (fun u h => ?_) _ rfl
    subst h
    exact v_vret C hRT (Nat.le_of_ble_eq_true rfl) (Nat.le_of_ble_eq_true rfl) dX4_extend_32 ⟨rfl, (FrE.tr FrE.J12 FrE.rI13), fun j hj => congrFun (aI_rI2 (fun z => hA.j12 z)) j, leaf hbx hc9 c6 htr hCM.1⟩
  · exact v_vret C hRT (Nat.le_of_ble_eq_true rfl) (Nat.le_of_ble_eq_true rfl) dX4_extend_9 ⟨rfl, FrE.rf, fun _ _ => rfl, by obtain ⟨a, rfl, ha⟩ := hbx.le hc9 c6; show BX S ad nr (if c0 + 0 < a.1 then _ else some a); rw [if_neg (by omega)]; exact hbx⟩
theorem nr_1 {nr k : Nat} (h : k + 1 ≤ nr) : nI (nr - (k + 1)) + 1 = nI (nr - k) := by rw [nI_1]; congr 1; omega
theorem cbound {nr k : Nat} {c0 c : Int} (h : k + 1 ≤ nr) (hc0 : bd c0 0 (64000000 * (nr - (k + 1) : Nat))) (h0 : 0 ≤ c) (hc : c = -1 ∨ bd c 0 64000000) : bd (c0 + c) 0 (64000000 * (nr - k : Nat)) := by
  have e : nr - k = (nr - (k + 1)) + 1 := by omega
  rw [e]
  unfold bd at *
  rcases hc with hc | hc <;> omega
theorem gbound {nr k : Nat} {c0 c : Int} (h : k + 1 ≤ nr) (hc0 : bd c0 0 (64000000 * (nr - (k + 1) : Nat))) (hc : bd c 0 64000000) : bd (c0 + c) 0 (64000000 * (nr - k : Nat)) := cbound h hc0 hc.1 (Or.inr hc)
theorem trstep {S T : HS} {ad : AD} {nr k : Nat} {tr : Nat → Int} {v : Int32} {z : Int} (hk : k + 1 ≤ nr) (hv : v = iO z) (hch : ∀ j, j < nr - (k + 1) → aI T (ad 12 0) j = aI S (ad 12 0) j) (htr : ∀ j, j < nr - (k + 1) → aI S (ad 12 0) j = iO (tr j)) : ∀ j, j < nr - k → aI (tI T (ad 12 0) (nr - (k + 1)) v) (ad 12 0) j = iO (fup tr (nr - (k + 1)) z j) := by
  intro j hj
  rw [aI_tI1]
  unfold fup
  by_cases h : j = nr - (k + 1)
  · rw [if_pos h, if_pos h, hv]
  · rw [if_neg h, if_neg h, hch j (by omega)]
    exact htr j (by omega)
theorem fup_if {tr : Nat → Int} {r j : Nat} {v : Int} (hj : j < r + 1) : (if j < r then tr j else v) = fup tr r v j := by
  unfold fup
  by_cases h : j < r
  · rw [if_pos h, if_neg (by omega)]
  · rw [if_neg h, if_pos (by omega)]
set_option maxRecDepth 100000 in
set_option maxHeartbeats 4000000 in
theorem lp_X4_extend {l : Launch} {pP : Program} {eE : Env} {sS : State} {mM : MethodId} {aA : Array Value} {bB : List Frame} {tT : Method} {cC : Code} {G : GT} {A : Nat → Prop} {Q : State → Prop}  (S : HS) (ad : AD) (n nr lc : Nat) (cm : Nat → Nat → Int) (g : Int) (k : Nat) (hk1 : k + 1 ≤ nr) (IH : ExtOK l ad n nr lc cm g k) (us : Nat → Bool) (m0 : Nat) (c0 : Int) (tr : Nat → Int) (b : Option OC) (hCM : CMok nr lc cm g) (hA : XA S ad n) (hX : XN S ad nr lc cm g) (hm6 : m0 < 64) (hus : ∀ i, i < lc → m0.testBit i = us i) (hc0 : bd c0 0 (64000000 * (nr - (k + 1) : Nat))) (hbx : BX S ad nr b) (htr : ∀ j, j < nr - (k + 1) → aI S (ad 12 0) j = iO (tr j)) (C : Cx pP l eE (rmD (8 + (k + 1)) 0 0) sS mM aA bB tT cC cX4_extend 8 RX4 G A) (kk : ∀ T : HS, FrE S T ad ∧ (∀ j, j < nr - (k + 1) → aI T (ad 12 0) j = aI S (ad 12 0) j) ∧ BX T ad nr (upF b c0 (nr - (k + 1)) tr (optF cm (nr - (k + 1)) us (fun i => opt cm g lc nr k (bup us i)) lc)) → V pP l eE (rmD (8 + (k + 1)) 0 0) sS mM aA bB tT cC 8 G A T 0 0 Q 112 [(0, .ref (ad 8 0)), (1, .int (nI (nr - (k + 1)))), (2, .int (nI m0)), (3, .long (lO c0)), (5, .int (nI lc))] []) : ∀ (N : Nat) (i : Nat) (T : HS), (hN9 : lc + 1 ≤ i + N) → (hi : i ≤ lc) → (hinv : FrE S T ad ∧ (∀ j, j < nr - (k + 1) → aI T (ad 12 0) j = aI S (ad 12 0) j) ∧ BX T ad nr (upF b c0 (nr - (k + 1)) tr (optF cm (nr - (k + 1)) us (fun i => opt cm g lc nr k (bup us i)) i))) → V pP l eE (rmD (8 + (k + 1)) 0 0) sS mM aA bB tT cC 8 G A T 0 0 Q 36 [(0, .ref (ad 8 0)), (1, .int (nI (nr - (k + 1)))), (2, .int (nI m0)), (3, .long (lO c0)), (5, .int (nI i))] [] := by
  intro N
  induction N with
  | zero =>
    intro i T hN9 hi hinv
    exact absurd hN9 (by omega)
  | succ N ih =>
    intro i T hN9 hi hinv
    obtain ⟨hE, hch, hbT⟩ := hinv
    have hAT := hE.toX.toA hA
    have hXT := XN.E hE hX
    have hn4 := hCM.1
    have hl6 := hCM.2.1
    refine v_iload C 4 rfl dX4_extend_36 ?_
    refine v_aload_n C 0 rfl rfl dX4_extend_38 ?_
    refine v_getI C (nI lc) fl_RX4_201 hAT.k8 hXT.2.1 dX4_extend_39 ?_
    refine v_icmp_ge C 112 (by decide) dX4_extend_42 (fun c42 => ?_) (fun c42 => ?_)
    · obtain rfl : i = lc := by have := nge c42 (by omega); omega
      exact V.sub [0, 1, 2, 3, 4] rfl (kk T ⟨hE, hch, hbT⟩)
    · have hlt := nlt c42 (by omega)
      refine v_iload C 4 rfl dX4_extend_45 ?_
      refine v_bipush C 6 (by decide) dX4_extend_47 ?_
      refine v_icmp_ge C 112 (by decide) dX4_extend_49 (fun q => (nI_ge (a := i) (b := 6) (by omega) (by decide) q).elim) (fun c49 => ?_)
      refine v_aload_n C 0 rfl rfl dX4_extend_52 ?_
      refine v_getR C (ad 10 0) fl_RX4_215 hAT.k8 hAT.r8 dX4_extend_53 ?_
      refine v_iload_n C 1 rfl rfl dX4_extend_56 ?_
      refine v_aald C (some (ad 11 (nr - (k + 1)))) (klt hAT.k10 (by decide)) (kgt hAT.k10 (by decide)) (by rw [hAT.n10]; exact vp_in_nI (by omega) (by decide)) ((congrArg _ (nI_clamp (by omega))).trans (hAT.a10 _ (by omega))) dX4_extend_57 ?_
      refine v_iload C 4 rfl dX4_extend_58 ?_
      refine v_lald C (lO (cm (nr - (k + 1)) i)) (hAT.k11 (nr - (k + 1)) (by omega)) (by rw [hAT.n11 _ (by omega)]; exact vp_in_nI (by omega) (by decide)) ((congrArg _ (nI_clamp (by omega))).trans (hXT.2.2.2 _ (by omega) i hlt)) dX4_extend_60 ?_
      refine v_lstore C [(6, .long (lO (cm (nr - (k + 1)) i))), (0, .ref (ad 8 0)), (1, .int (nI (nr - (k + 1)))), (2, .int (nI m0)), (3, .long (lO c0)), (5, .int (nI i))] (by decide) rfl dX4_extend_61 ?_
      refine v_lload C 0 rfl dX4_extend_63 ?_
      refine v_ldc2 C kl_RX4_145 dX4_extend_65 ?_
      refine v_lcmp C dX4_extend_68 ?_
      refine v_if_eq C 106 (by decide) dX4_extend_69 (fun c69 => ?_) (fun c69 => ?_)
      · refine v_iinc C (nI (i + 1)) 5 [(5, .int (nI (i + 1))), (6, .long (lO (cm (nr - (k + 1)) i))), (0, .ref (ad 8 0)), (1, .int (nI (nr - (k + 1)))), (2, .int (nI m0)), (3, .long (lO c0))] rfl (by rw [← nI_1]; rfl) (by decide) rfl dX4_extend_106 ?_
        refine v_goto C 36 (by decide) dX4_extend_109 ?_
        exact V.sub [2, 3, 4, 5, 0] rfl (ih (i + 1) T (by omega) (by omega) ⟨hE, hch, by unfold optF; rw [if_neg (fun z => absurd z.1 (by rw [cm_m1 (hCM.2.2.2 (nr - (k + 1)) (by omega) i hlt) c69]; decide))]; exact hbT⟩)
      · have hcm0 : 0 ≤ cm (nr - (k + 1)) i := by rcases hCM.2.2.2 (nr - (k + 1)) (by omega) i hlt with z | z; exact absurd ((lg_cmp_eq _ _).mpr (by rw [z]; rfl)) c69; exact z.1
        refine v_iload_n C 3 rfl rfl dX4_extend_72 ?_
        refine v_iload C 5 rfl dX4_extend_73 ?_
        refine v_ishr C dX4_extend_75 ?_
        refine v_iconst C 1 (by decide) dX4_extend_76 ?_
        refine v_iand C dX4_extend_77 ?_
        refine v_if_ne C 106 (by decide) dX4_extend_78 (fun c78 => ?_) (fun c78 => ?_)
        · refine v_iinc C (nI (i + 1)) 5 [(5, .int (nI (i + 1))), (6, .long (lO (cm (nr - (k + 1)) i))), (0, .ref (ad 8 0)), (1, .int (nI (nr - (k + 1)))), (2, .int (nI m0)), (3, .long (lO c0))] rfl (by rw [← nI_1]; rfl) (by decide) rfl dX4_extend_106 ?_
          refine v_goto C 36 (by decide) dX4_extend_109 ?_
          rw [bitS m0 hm6 i (by omega)] at c78
          have hus1 : us i = true := by rw [← hus i hlt]; exact bI_n0 c78
          exact V.sub [2, 3, 4, 5, 0] rfl (ih (i + 1) T (by omega) (by omega) ⟨hE, hch, by unfold optF; rw [if_neg (fun z => by rw [hus1] at z; exact absurd z.2 (by decide))]; exact hbT⟩)
        · have hus0 : us i = false := by rw [bitS m0 hm6 i (by omega)] at c78; rw [← hus i hlt]; exact Bool.eq_false_iff.mpr (bI_e0 c78)
          refine v_aload_n C 1 rfl rfl dX4_extend_81 ?_
          refine v_getR C (ad 12 0) fl_RX4_219 hAT.k8 hAT.r10 dX4_extend_82 ?_
          refine v_iload_n C 2 rfl rfl dX4_extend_85 ?_
          refine v_iload C 5 rfl dX4_extend_86 ?_
          refine v_iastj C (nr - (k + 1)) (nI_clamp (by omega)) hAT.k12 (by rw [hAT.n12]; exact vp_in_nI (by omega) (by decide)) dX4_extend_88 ?_
          refine v_aload_n C 1 rfl rfl dX4_extend_89 ?_
          refine v_iload_n C 2 rfl rfl dX4_extend_90 ?_
          refine v_iconst C 1 (by decide) dX4_extend_91 ?_
          refine v_iadd C dX4_extend_92 ?_
          refine v_iload_n C 3 rfl rfl dX4_extend_93 ?_
          refine v_iconst C 1 (by decide) dX4_extend_94 ?_
          refine v_iload C 5 rfl dX4_extend_95 ?_
          refine v_ishl C dX4_extend_97 ?_
          refine v_ior C dX4_extend_98 ?_
          refine v_lload_n C 4 rfl rfl dX4_extend_99 ?_
          refine v_lload C 0 rfl dX4_extend_100 ?_
          refine v_ladd C dX4_extend_102 ?_
          obtain ⟨hbo, hb64⟩ := bitO m0 hm6 i (by omega)
          rw [hbo, nr_1 hk1, lO_add]
          have hcb : bd (c0 + cm (nr - (k + 1)) i) 0 (64000000 * (nr - k : Nat)) := cbound hk1 hc0 hcm0 (hCM.2.2.2 (nr - (k + 1)) (by omega) i hlt)
          have hub : ∀ j, j < lc → (m0 ||| 2 ^ i).testBit j = bup us i j := by
            intro j hj
            rw [bitT m0 hm6 i (by omega) j (by omega)]
            unfold bup
            split
            · rfl
            · exact hus j hj
          refine v_callSv C (st := []) [.ref (ad 8 0), .int (nI (nr - k)), .int (nI (m0 ||| 2 ^ i)), .long (lO (c0 + cm (nr - (k + 1)) i))] (IH (tI T (ad 12 0) (nr - (k + 1)) (nI i)) (bup us i) (m0 ||| 2 ^ i) (c0 + cm (nr - (k + 1)) i) (fup tr (nr - (k + 1)) i) (upF b c0 (nr - (k + 1)) tr (optF cm (nr - (k + 1)) us (fun i => opt cm g lc nr k (bup us i)) i)) ((hE.tr FrE.aI12).toX.toA hA) (XN.E (hE.tr FrE.aI12) hX) hb64 hub hcb (hbT.of rfl (aI_tI2 (fun z => hA.j12 z.symm))) (trstep hk1 (nI_iO i) hch htr)) ml_RX4_176 ms_yX4_extend rfl (Nat.le_of_ble_eq_true rfl) (by show 8 + k + 1 ≤ 8 + (k + 1); omega) (by show 8 + (8 + 11) + 40 * (8 + k) ≤ 40 * (8 + (k + 1)); omega) (Nat.le_of_ble_eq_true rfl) (Nat.le_of_ble_eq_true rfl) dX4_extend_103 (fun u h => ?_) _ rfl
          obtain ⟨hE2, hch2, hb2⟩ := h
          refine v_iinc C (nI (i + 1)) 5 [(5, .int (nI (i + 1))), (6, .long (lO (cm (nr - (k + 1)) i))), (0, .ref (ad 8 0)), (1, .int (nI (nr - (k + 1)))), (2, .int (nI m0)), (3, .long (lO c0))] rfl (by rw [← nI_1]; rfl) (by decide) rfl dX4_extend_106 ?_
          refine v_goto C 36 (by decide) dX4_extend_109 ?_
          refine V.sub [2, 3, 4, 5, 0] rfl (ih (i + 1) u (by omega) (by omega) ⟨(hE.tr FrE.aI12).tr hE2, fun j hj => ?_, ?_⟩)
          · rw [hch2 j (by omega), aI_tI1, if_neg (by omega), hch j hj]
          · unfold optF
            rw [if_pos ⟨hcm0, hus0⟩]
            have e9 : nr - k = nr - (k + 1) + 1 := by omega
            rw [e9, upB_none (fun j hj => fup_if hj)] at hb2
            exact hb2
