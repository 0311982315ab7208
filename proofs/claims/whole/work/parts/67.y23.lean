/-- all but the search's own rows stays -/
def FrS (S T : HS) (am : AM) : Prop := (∀ a, hK T a = hK S a) ∧ (∀ f a, hR T f a = hR S f a) ∧ (∀ a, hN T a = hN S a) ∧ (∀ f a, hI T f a = hI S f a) ∧ (∀ a, aR T a = aR S a) ∧ (∀ a, a ≠ am 9 → a ≠ am 10 → aI T a = aI S a)
theorem FrS.rf {S : HS} {am : AM} : FrS S S am := ⟨fun _ => rfl, fun _ _ => rfl, fun _ => rfl, fun _ _ => rfl, fun _ => rfl, fun _ _ _ => rfl⟩
theorem FrS.tr {S T U : HS} {am : AM} (h : FrS S T am) (g : FrS T U am) : FrS S U am := ⟨fun a => (g.1 a).trans (h.1 a), fun f a => (g.2.1 f a).trans (h.2.1 f a), fun a => (g.2.2.1 a).trans (h.2.2.1 a), fun f a => (g.2.2.2.1 f a).trans (h.2.2.2.1 f a), fun a => (g.2.2.2.2.1 a).trans (h.2.2.2.2.1 a), fun a x y => (g.2.2.2.2.2 a x y).trans (h.2.2.2.2.2 a x y)⟩
theorem FrS.J {S : HS} {am : AM} {f a : Nat} {v : Int64} : FrS S (sJ S f a v) am := ⟨fun _ => rfl, fun _ _ => rfl, fun _ => rfl, fun _ _ => rfl, fun _ => rfl, fun _ _ _ => rfl⟩
theorem FrS.A {S : HS} {am : AM} {i j : Nat} {v : Int32} (h : i = 9 ∨ i = 10) : FrS S (tI S (am i) j v) am := ⟨fun _ => rfl, fun _ _ => rfl, fun _ => rfl, fun _ _ => rfl, fun _ => rfl, fun a x y => aI_tI2 (by rcases h with rfl | rfl; exact x; exact y)⟩
theorem FrS.N {S T : HS} {am : AM} (h : FrS S T am) : FrN S T am := ⟨h.1, h.2.1, h.2.2.1, fun f a _ => h.2.2.2.1 f a, h.2.2.2.2.1, fun a x y _ => h.2.2.2.2.2 a x y⟩
/-- the places that are taken -/
def usT (tr : Nat → Int) (r : Nat) : Nat → Bool := fun t => anyP (fun k => decide (tr k = (t : Int))) r
theorem anyP_cg {p p' : Nat → Bool} : ∀ n, (∀ j, j < n → p' j = p j) → anyP p' n = anyP p n
  | 0, _ => rfl
  | n + 1, h => by
    show (anyP p' n || p' n) = (anyP p n || p n)
    rw [anyP_cg n (fun j hj => h j (by omega)), h n (by omega)]
theorem usT_o {tr : Nat → Int} {r : Nat} {v : Int} (t : Nat) : usT (fup tr r v) (r + 1) t = (usT tr r t || decide (v = (t : Int))) := by
  show (anyP (fun k => decide (fup tr r v k = (t : Int))) r || decide (fup tr r v r = (t : Int))) = _
  rw [show fup tr r v r = v from if_pos rfl]
  congr 1
  exact anyP_cg r (fun j hj => by show decide (fup tr r v j = _) = _; rw [show fup tr r v j = tr j from if_neg (by omega)])
theorem usT_s {tr : Nat → Int} {r i : Nat} : usT (fup tr r (i : Int)) (r + 1) = bup (usT tr r) i := by
  funext t
  rw [usT_o]
  unfold bup
  by_cases e : t = i
  · rw [if_pos e, decide_eq_true (by rw [e]), Bool.or_true]
  · rw [if_neg e, decide_eq_false (by omega), Bool.or_false]
theorem usT_n {tr : Nat → Int} {r : Nat} : usT (fup tr r (-1)) (r + 1) = usT tr r := by
  funext t
  rw [usT_o, decide_eq_false (by omega), Bool.or_false]
/-- the best so far -/
def BN (S : HS) (am : AM) (nr : Nat) (b : Option OC) : Prop := match b with
  | none => hJ S 60 (am 0) = -1
  | some a => hJ S 60 (am 0) = lO a.1 ∧ bd a.1 0 1000000000 ∧ ∀ j, j < nr → aI S (am 10) j = iO (a.2 j)
theorem BN.of {S T : HS} {am : AM} {nr : Nat} {b : Option OC} (h : BN S am nr b) (h1 : hJ T 60 (am 0) = hJ S 60 (am 0)) (h2 : aI T (am 10) = aI S (am 10)) : BN T am nr b := by
  cases b with
  | none => exact h1.trans h
  | some a => exact ⟨h1.trans h.1, h.2.1, fun j hj => (congrFun h2 j).trans (h.2.2 j hj)⟩
theorem BN.no {S : HS} {am : AM} {nr : Nat} {b : Option OC} (h : BN S am nr b) (c : lg_cmp (hJ S 60 (am 0)) (-1) = 0) : b = none := by
  cases b with
  | none => rfl
  | some a =>
    obtain ⟨h0, h1, -⟩ := h
    have := (lg_cmp_eq _ _).mp c
    rw [h0, show (-1 : Int64) = lO (-1) from rfl, lO_eq (by unfold bd at *; omega) (by unfold bd at *; omega) (by omega) (by omega)] at this
    unfold bd at h1
    omega
theorem BN.yes {S : HS} {am : AM} {nr : Nat} {b : Option OC} {c0 : Int} (h : BN S am nr b) (hc : bd c0 0 1000000000) (c : ¬ lg_cmp (hJ S 60 (am 0)) (-1) = 0) : ∃ a, b = some a ∧ (0 ≤ lg_cmp (lO c0) (hJ S 60 (am 0)) ↔ a.1 ≤ c0) := by
  cases b with
  | none => exact absurd ((lg_cmp_eq _ _).mpr h) c
  | some a =>
    obtain ⟨h0, h1, -⟩ := h
    refine ⟨a, rfl, ?_⟩
    rw [h0, lg_cmp_ge]
    exact lO_le (by unfold bd at *; omega) (by unfold bd at *; omega) (by unfold bd at *; omega) (by unfold bd at *; omega)
/-- what 'tries' owes with k reports left -/
def TryOK (l : Launch) (am : AM) (q : AS) (k : Nat) : Prop := ∀ (S : HS) (c0 : Int) (tr : Nat → Int) (b : Option OC), NA S am (cn q 1) → NV S am q → bd c0 0 (64000000 * (cn q 0 - k : Nat)) → BN S am (cn q 0) b → (∀ j, j < cn q 0 - k → aI S (am 9) j = iO (tr j) ∧ bd (tr j) (-1) 60) → cM l yX5_tries cX5_tries 7 (Option.none : Option Jvm.ClassFile.FieldType) (12 + k) [.ref (am 0), .int (nI (cn q 0 - k)), .long (lO c0)] S (pV fun u => FrS S u am ∧ (∀ j, j < cn q 0 - k → aI u (am 9) j = aI S (am 9) j) ∧ BN u am (cn q 0) (upB b c0 (cn q 0 - k) tr (opt (cmM q) (gsq q) (cn q 1) (cn q 0) k (usT tr (cn q 0 - k))))) 0 0
theorem cmM_b {q : AS} (hB : BI q) {r t : Nat} (hr : r < cn q 0) (ht : t < cn q 1) : cmM q r t = -1 ∨ bd (cmM q r t) 0 64000000 := by
  unfold cmM
  split
  · exact ctk_b q hB hr ht
  · exact Or.inl rfl
theorem cmM_i {q : AS} {r t : Nat} : (0 ≤ cmM q r t) ↔ (zz q 3 t 7 = 0 ∧ 0 ≤ ctk q r t) := by
  unfold cmM liveP
  by_cases h : zz q 3 t 7 = 0
  · rw [if_pos (decide_eq_true h)]
    exact ⟨fun z => ⟨h, z⟩, fun z => z.2⟩
  · rw [if_neg (fun z => h (of_decide_eq_true z))]
    exact ⟨fun z => absurd z (by decide), fun z => absurd z.1 h⟩
theorem cmM_d {q : AS} {r t : Nat} (h : 0 ≤ cmM q r t) : dst q r t = cmM q r t := by
  have h2 := cmM_i.mp h
  have e1 : cmM q r t = ctk q r t := if_pos (decide_eq_true h2.1)
  rw [e1]
  have h3 := h2.2
  unfold ctk at h3 ⊢
  by_cases c : zz q 2 r 0 < zz q 3 t 0 ∨ gsq q < dst q r t
  · rw [if_pos c] at h3; omega
  · rw [if_neg c]
set_option maxRecDepth 100000 in
set_option maxHeartbeats 4000000 in
theorem lp_X5_copy {l : Launch} {pP : Program} {eE : Env} {sS : State} {mM : MethodId} {aA : Array Value} {bB : List Frame} {tT : Method} {cC : Code} {G : GT} {A : Nat → Prop} {Q : State → Prop}  (S : HS) (am : AM) (q : AS) (c0 : Int) (hB : BI q) (hA : NA S am (cn q 1)) (hV : NV S am q)  (C : Cx pP l eE (rmD 12 0 0) sS mM aA bB tT cC cX5_tries 7 RX5 G A) (kk : ∀ T : HS, FrS S T am ∧ (∀ j, aI T (am 9) j = aI S (am 9) j) ∧ hJ T 60 (am 0) = hJ S 60 (am 0) ∧ (∀ j, j < (cn q 0) → aI T (am 10) j = aI S (am 9) j) → V pP l eE (rmD 12 0 0) sS mM aA bB tT cC 7 G A T 0 0 Q 65 [(0, .ref (am 0)), (1, .int (nI (cn q 0 - 0))), (2, .long (lO c0)), (4, .int (nI (cn q 0)))] []) : ∀ (N : Nat) (k : Nat) (T : HS), (hN9 : cn q 0 + 1 ≤ k + N) → (hi : k ≤ cn q 0) → (hinv : FrS S T am ∧ (∀ j, aI T (am 9) j = aI S (am 9) j) ∧ hJ T 60 (am 0) = hJ S 60 (am 0) ∧ (∀ j, j < k → aI T (am 10) j = aI S (am 9) j)) → V pP l eE (rmD 12 0 0) sS mM aA bB tT cC 7 G A T 0 0 Q 36 [(0, .ref (am 0)), (1, .int (nI (cn q 0 - 0))), (2, .long (lO c0)), (4, .int (nI k))] [] := by
  intro N
  induction N with
  | zero =>
    intro k T hN9 hi hinv
    exact absurd hN9 (by omega)
  | succ N ih =>
    intro k T hN9 hi hinv
    obtain ⟨hF, h9, hJ6, h10⟩ := hinv
    have hAT := hF.N.toA hA
    have hVT := hF.N.toV hA hV
    have h04 := hB.b0
    have h60 := hA.hn
    refine v_iload C 3 rfl dX5_tries_36 ?_
    refine v_aload_n C 0 rfl rfl dX5_tries_38 ?_
    refine v_getI C (nI (cn q 0)) fl_RX5_111 hAT.k0 hVT.v50 dX5_tries_39 ?_
    refine v_icmp_ge C 65 (by decide) dX5_tries_42 (fun c42 => ?_) (fun c42 => ?_)
    · obtain rfl : k = cn q 0 := by have := nge c42 (by omega); omega
      exact V.sub [0, 1, 2, 3] rfl (kk T ⟨hF, h9, hJ6, h10⟩)
    · have hlt : k < cn q 0 := nlt c42 (by omega)
      refine v_aload_n C 0 rfl rfl dX5_tries_45 ?_
      refine v_getR C (am 10) fl_RX5_56 hAT.k0 hAT.r59 dX5_tries_46 ?_
      refine v_iload C 3 rfl dX5_tries_49 ?_
      refine v_aload_n C 0 rfl rfl dX5_tries_51 ?_
      refine v_getR C (am 9) fl_RX5_53 hAT.k0 hAT.r58 dX5_tries_52 ?_
      refine v_iload C 3 rfl dX5_tries_55 ?_
      refine v_iald C (aI S (am 9) k) hAT.k9 (vpi hAT.n9 (vp_in_nI (by omega) (by decide))) ((congrArg _ (nI_clamp (by omega))).trans (h9 k)) dX5_tries_57 ?_
      refine v_iastj C k (nI_clamp (by omega)) hAT.k10 (vpi hAT.n10 (vp_in_nI (by omega) (by decide))) dX5_tries_58 ?_
      refine v_iinc C (nI (k + 1)) 3 [(4, .int (nI (k + 1))), (0, .ref (am 0)), (1, .int (nI (cn q 0 - 0))), (2, .long (lO c0))] rfl (by rw [← nI_1]; rfl) (by decide) rfl dX5_tries_59 ?_
      refine v_goto C 36 (by decide) dX5_tries_62 ?_
      refine V.sub [1, 2, 3, 0] rfl (ih (k + 1) (tI T (am 10) k (aI S (am 9) k)) (by omega) (by omega) ⟨hF.tr (FrS.A (Or.inr rfl)), fun j => (congrFun (aI_tI2 (hA.apt (by decide) (by decide) (by decide))) j).trans (h9 j), hJ6, fun j hj => ?_⟩)
      rw [aI_tI1]
      by_cases e : j = k
      · rw [if_pos e, e]
      · rw [if_neg e]; exact h10 j (by omega)
theorem leafT {S T : HS} {am : AM} {q : AS} {b : Option OC} {c0 : Int} {tr : Nat → Int} (hc9 : bd c0 0 1000000000) (hlt : ∀ a, b = some a → c0 < a.1) (htr : ∀ j, j < cn q 0 - 0 → aI S (am 9) j = iO (tr j) ∧ bd (tr j) (-1) 60) (h1 : hJ T 60 (am 0) = lO c0) (h2 : ∀ j, j < cn q 0 → aI T (am 10) j = aI S (am 9) j) :
    BN T am (cn q 0) (upB b c0 (cn q 0 - 0) tr (0, fun _ => -1)) := by
  have e : upB b c0 (cn q 0 - 0) tr (0, fun _ => -1) = some (c0 + 0, fun j => if j < cn q 0 - 0 then tr j else -1) := by
    cases b with
    | none => rfl
    | some a =>
      show (if c0 + 0 < a.1 then _ else some a) = _
      rw [if_pos (by have := hlt a rfl; omega)]
  rw [e]
  refine ⟨by rw [h1, Int.add_zero], by unfold bd at *; omega, fun j hj => ?_⟩
  rw [h2 j hj, (htr j (by omega)).1]
  show _ = iO (if j < cn q 0 - 0 then tr j else -1)
  rw [if_pos (by omega)]
theorem leafN {S : HS} {am : AM} {q : AS} {b : Option OC} {c0 : Int} {tr : Nat → Int} {a : OC} (hb : b = some a) (hle : a.1 ≤ c0) (h : BN S am (cn q 0) b) : BN S am (cn q 0) (upB b c0 (cn q 0 - 0) tr (0, fun _ => -1)) := by
  subst hb
  show BN S am (cn q 0) (if c0 + 0 < a.1 then _ else some a)
  rw [if_neg (by omega)]
  exact h
set_option maxRecDepth 100000 in
set_option maxHeartbeats 4000000 in
theorem c_X5_tries0 (l : Launch) (S : HS) (am : AM) (q : AS) (hB : BI q) (hA : NA S am (cn q 1)) (hV : NV S am q) (c0 : Int) (tr : Nat → Int) (b : Option OC) (hc0 : bd c0 0 (64000000 * (cn q 0 - 0 : Nat))) (hbn : BN S am (cn q 0) b) (htr : ∀ j, j < cn q 0 - 0 → aI S (am 9) j = iO (tr j) ∧ bd (tr j) (-1) 60)  : cM l yX5_tries cX5_tries 7 (Option.none : Option Jvm.ClassFile.FieldType) (12 + 0) [.ref (am 0), .int (nI (cn q 0 - 0)), .long (lO c0)] S (pV fun u => FrS S u am ∧ (∀ j, j < cn q 0 - 0 → aI u (am 9) j = aI S (am 9) j) ∧ BN u am (cn q 0) (upB b c0 (cn q 0 - 0) tr (opt (cmM q) (gsq q) (cn q 1) (cn q 0) 0 (usT tr (cn q 0 - 0))))) 0 0 := by
  refine cM_intro (by decide +kernel) cd_X5_tries (Nat.le_of_ble_eq_true rfl) ?_
  intro pP eE sS mM aA bB tT cC G A C hRT hin
  refine V.lvs (lv2 := [(0, .ref (am 0)), (1, .int (nI (cn q 0 - 0))), (2, .long (lO c0))]) rfl ?_
  have h04 := hB.b0
  have h60 := hA.hn
  have hc9 : bd c0 0 1000000000 := by unfold bd at *; omega
  refine v_iload_n C 1 rfl rfl dX5_tries_0 ?_
  refine v_aload_n C 0 rfl rfl dX5_tries_1 ?_
  refine v_getI C (nI (cn q 0)) fl_RX5_111 hA.k0 hV.v50 dX5_tries_2 ?_
  refine v_icmp_ne C 66 (by decide) dX5_tries_5 (fun q => (q rfl).elim) (fun c5 => ?_)
  refine v_aload_n C 0 rfl rfl dX5_tries_8 ?_
  refine v_getJ C (hJ S 60 (am 0)) fl_RX5_134 hA.k0 rfl dX5_tries_9 ?_
  refine v_ldc2 C kl_RX5_138 dX5_tries_12 ?_
  refine v_lcmp C dX5_tries_15 ?_
  refine v_if_eq C 28 (by decide) dX5_tries_16 (fun c16 => ?_) (fun c16 => ?_)
  · refine v_aload_n C 0 rfl rfl dX5_tries_28 ?_
    refine v_lload_n C 2 rfl rfl dX5_tries_29 ?_
    refine v_putJ C fl_RX5_134 hA.k0 rfl rfl dX5_tries_30 ?_
    refine v_iconst C 0 (by decide) dX5_tries_33 ?_
    refine v_istore C [(4, .int 0), (0, .ref (am 0)), (1, .int (nI (cn q 0 - 0))), (2, .long (lO c0))] (by decide) rfl dX5_tries_34 ?_
    have hlt9 : ∀ a, b = some a → c0 < a.1 := fun a ha => by rw [hbn.no c16] at ha; cases ha
    refine V.sub [1, 2, 3, 0] rfl (lp_X5_copy (sJ S 60 (am 0) (lO c0)) am q c0 hB (hA.of rfl rfl rfl rfl) (FrS.N (FrS.J)|>.toV hA hV) C (fun T hT => ?_) (cn q 0 + 1) 0 (sJ S 60 (am 0) (lO c0)) (by omega) (by omega) ⟨FrS.rf, fun _ => rfl, rfl, fun j hj => absurd hj (Nat.not_lt_zero j)⟩)
    obtain ⟨hF, h9, hJ6, h10⟩ := hT
    exact v_vret C hRT (Nat.le_of_ble_eq_true rfl) (Nat.le_of_ble_eq_true rfl) dX5_tries_65 ⟨rfl, FrS.J.tr hF, fun j _ => h9 j, leafT hc9 hlt9 htr (hJ6.trans hJ_sJ1) h10⟩
  · refine v_lload_n C 2 rfl rfl dX5_tries_19 ?_
    refine v_aload_n C 0 rfl rfl dX5_tries_20 ?_
    refine v_getJ C (hJ S 60 (am 0)) fl_RX5_134 hA.k0 rfl dX5_tries_21 ?_
    refine v_lcmp C dX5_tries_24 ?_
    refine v_if_ge C 65 (by decide) dX5_tries_25 (fun c25 => ?_) (fun c25 => ?_)
    · exact v_vret C hRT (Nat.le_of_ble_eq_true rfl) (Nat.le_of_ble_eq_true rfl) dX5_tries_65 (by obtain ⟨a9, e9, h9⟩ := hbn.yes hc9 c16; exact ⟨rfl, FrS.rf, fun _ _ => rfl, leafN e9 (h9.mp c25) hbn⟩)
    · refine v_aload_n C 0 rfl rfl dX5_tries_28 ?_
      refine v_lload_n C 2 rfl rfl dX5_tries_29 ?_
      refine v_putJ C fl_RX5_134 hA.k0 rfl rfl dX5_tries_30 ?_
      refine v_iconst C 0 (by decide) dX5_tries_33 ?_
      refine v_istore C [(4, .int 0), (0, .ref (am 0)), (1, .int (nI (cn q 0 - 0))), (2, .long (lO c0))] (by decide) rfl dX5_tries_34 ?_
      have hlt9 : ∀ a, b = some a → c0 < a.1 := fun a ha => by obtain ⟨a9, e9, h9⟩ := hbn.yes hc9 c16; rw [e9] at ha; have ea : a9 = a := Option.some.inj ha; rw [← ea]; rcases Int.lt_or_le c0 a9.1 with z | z; exact z; exact absurd (h9.mpr z) c25
      refine V.sub [1, 2, 3, 0] rfl (lp_X5_copy (sJ S 60 (am 0) (lO c0)) am q c0 hB (hA.of rfl rfl rfl rfl) (FrS.N (FrS.J)|>.toV hA hV) C (fun T hT => ?_) (cn q 0 + 1) 0 (sJ S 60 (am 0) (lO c0)) (by omega) (by omega) ⟨FrS.rf, fun _ => rfl, rfl, fun j hj => absurd hj (Nat.not_lt_zero j)⟩)
      obtain ⟨hF, h9, hJ6, h10⟩ := hT
      exact v_vret C hRT (Nat.le_of_ble_eq_true rfl) (Nat.le_of_ble_eq_true rfl) dX5_tries_65 ⟨rfl, FrS.J.tr hF, fun j _ => h9 j, leafT hc9 hlt9 htr (hJ6.trans hJ_sJ1) h10⟩
theorem usT_1 {tr : Nat → Int} {j t : Nat} : usT tr (j + 1) t = false ↔ usT tr j t = false ∧ ¬ tr j = (t : Int) := by
  show ((usT tr j t || decide (tr j = (t : Int))) = false) ↔ _
  rw [Bool.or_eq_false_iff, decide_eq_false_iff_not]
theorem usT_m {tr : Nat → Int} {t j : Nat} : ∀ n, usT tr (j + n) t = false → usT tr j t = false
  | 0, h => h
  | n + 1, h => usT_m n (usT_1.mp h).1
set_option maxRecDepth 100000 in
set_option maxHeartbeats 4000000 in
theorem lp_X5_free {l : Launch} {pP : Program} {eE : Env} {sS : State} {mM : MethodId} {aA : Array Value} {bB : List Frame} {tT : Method} {cC : Code} {G : GT} {A : Nat → Prop} {Q : State → Prop}  (S : HS) (am : AM) (q : AS) (k : Nat) (hk1 : k + 1 ≤ cn q 0) (c0 : Int) (tr : Nat → Int) (t : Nat) (hB : BI q) (hA : NA S am (cn q 1)) (ht : t < cn q 1) (htr : ∀ j, j < (cn q 0 - (k + 1)) → aI S (am 9) j = iO (tr j) ∧ bd (tr j) (-1) 60)  (C : Cx pP l eE (rmD (12 + (k + 1)) 0 0) sS mM aA bB tT cC cX5_tries 7 RX5 G A) (kk : ∀ z : Int32, V pP l eE (rmD (12 + (k + 1)) 0 0) sS mM aA bB tT cC 7 G A S 0 0 Q 126 [(0, .ref (am 0)), (1, .int (nI (cn q 0 - (k + 1)))), (2, .long (lO c0)), (4, .int (nI t)), (5, .int (bI ((zz q 3 t 7 = 0 ∧ 0 ≤ ctk q (cn q 0 - (k + 1)) t) ∧ usT tr (cn q 0 - (k + 1)) t = false))), (6, .int z)] []) : ∀ (N : Nat) (j : Nat), (hN9 : (cn q 0 - (k + 1)) + 1 ≤ j + N) → (hi : j ≤ (cn q 0 - (k + 1))) → V pP l eE (rmD (12 + (k + 1)) 0 0) sS mM aA bB tT cC 7 G A S 0 0 Q 90 [(0, .ref (am 0)), (1, .int (nI (cn q 0 - (k + 1)))), (2, .long (lO c0)), (4, .int (nI t)), (5, .int (bI ((zz q 3 t 7 = 0 ∧ 0 ≤ ctk q (cn q 0 - (k + 1)) t) ∧ usT tr j t = false))), (6, .int (nI j))] [] := by
  intro N
  induction N with
  | zero =>
    intro j hN9 hi
    exact absurd hN9 (by omega)
  | succ N ih =>
    intro j hN9 hi
    have h04 := hB.b0
    have h60 := hA.hn
    refine v_iload C 5 rfl dX5_tries_90 ?_
    refine v_iload_n C 1 rfl rfl dX5_tries_92 ?_
    refine v_icmp_ge C 126 (by decide) dX5_tries_93 (fun c93 => ?_) (fun c93 => ?_)
    · obtain rfl : j = (cn q 0 - (k + 1)) := by have := nge c93 (by omega); omega
      exact V.sub [0, 1, 2, 3, 4, 5] rfl (kk _)
    · have hlt : j < (cn q 0 - (k + 1)) := nlt c93 (by omega)
      refine v_iload C 4 rfl dX5_tries_96 ?_
      refine v_if_eq C 126 (by decide) dX5_tries_98 (fun c98 => ?_) (fun c98 => ?_)
      · have e1 : (bI ((zz q 3 t 7 = 0 ∧ 0 ≤ ctk q (cn q 0 - (k + 1)) t) ∧ usT tr j t = false)) = (bI ((zz q 3 t 7 = 0 ∧ 0 ≤ ctk q (cn q 0 - (k + 1)) t) ∧ usT tr (cn q 0 - (k + 1)) t = false)) := (bI0 (bI_e0 c98)).trans (bI0 (fun z => bI_e0 c98 ⟨z.1, usT_m ((cn q 0 - (k + 1)) - j) (by rw [show j + ((cn q 0 - (k + 1)) - j) = (cn q 0 - (k + 1)) by omega]; exact z.2)⟩)).symm
        have key := kk (nI j)
        rw [← e1] at key
        exact V.sub [0, 1, 2, 3, 4, 5] rfl key
      · refine v_aload_n C 0 rfl rfl dX5_tries_101 ?_
        refine v_getR C (am 9) fl_RX5_53 hA.k0 hA.r58 dX5_tries_102 ?_
        refine v_iload C 5 rfl dX5_tries_105 ?_
        refine v_iald C (iO (tr j)) hA.k9 (vpi hA.n9 (vp_in_nI (by omega) (by decide))) ((congrArg _ (nI_clamp (by omega))).trans (htr j hlt).1) dX5_tries_107 ?_
        refine v_iload C 3 rfl dX5_tries_108 ?_
        refine v_icmp_eq C 117 (by decide) dX5_tries_110 (fun c110 => ?_) (fun c110 => ?_)
        · refine v_iconst C 0 (by decide) dX5_tries_117 ?_
          refine v_istore C [(5, .int 0), (0, .ref (am 0)), (1, .int (nI (cn q 0 - (k + 1)))), (2, .long (lO c0)), (4, .int (nI t)), (6, .int (nI j))] (by decide) rfl dX5_tries_118 ?_
          refine v_iinc C (nI (j + 1)) 5 [(6, .int (nI (j + 1))), (5, .int 0), (0, .ref (am 0)), (1, .int (nI (cn q 0 - (k + 1)))), (2, .long (lO c0)), (4, .int (nI t))] rfl (by rw [← nI_1]; rfl) (by decide) rfl dX5_tries_120 ?_
          refine v_goto C 90 (by decide) dX5_tries_123 ?_
          have hb9 := (htr j hlt).2
          have ej : (iO (tr j) = nI t) ↔ tr j = (t : Int) := by rw [nI_iO]; exact iO_eq (by unfold bd at *; omega) (by unfold bd at *; omega) (by omega) (by omega)
          have hy := bI_n0 c98
          have e1 : (bI ((zz q 3 t 7 = 0 ∧ 0 ≤ ctk q (cn q 0 - (k + 1)) t) ∧ usT tr (j + 1) t = false)) = 0 := bI0 (fun z => (usT_1.mp z.2).2 (ej.mp c110))
          have key := ih (j + 1) (by omega) (by omega)
          rw [e1] at key
          exact V.sub [2, 3, 4, 5, 1, 0] rfl key
        · refine v_iconst C 1 (by decide) dX5_tries_113 ?_
          refine v_goto C 118 (by decide) dX5_tries_114 ?_
          refine v_istore C [(5, .int 1), (0, .ref (am 0)), (1, .int (nI (cn q 0 - (k + 1)))), (2, .long (lO c0)), (4, .int (nI t)), (6, .int (nI j))] (by decide) rfl dX5_tries_118 ?_
          refine v_iinc C (nI (j + 1)) 5 [(6, .int (nI (j + 1))), (5, .int 1), (0, .ref (am 0)), (1, .int (nI (cn q 0 - (k + 1)))), (2, .long (lO c0)), (4, .int (nI t))] rfl (by rw [← nI_1]; rfl) (by decide) rfl dX5_tries_120 ?_
          refine v_goto C 90 (by decide) dX5_tries_123 ?_
          have hb9 := (htr j hlt).2
          have ej : (iO (tr j) = nI t) ↔ tr j = (t : Int) := by rw [nI_iO]; exact iO_eq (by unfold bd at *; omega) (by unfold bd at *; omega) (by omega) (by omega)
          have hy := bI_n0 c98
          have e1 : (bI ((zz q 3 t 7 = 0 ∧ 0 ≤ ctk q (cn q 0 - (k + 1)) t) ∧ usT tr (j + 1) t = false)) = 1 := bI1 ⟨hy.1, usT_1.mpr ⟨hy.2, fun z => c110 (ej.mpr z)⟩⟩
          have key := ih (j + 1) (by omega) (by omega)
          rw [e1] at key
          exact V.sub [2, 3, 4, 5, 1, 0] rfl key
theorem nr_1q {n k : Nat} (h : k + 1 ≤ n) : nI (n - (k + 1)) + 1 = nI (n - k) := nr_1 h
theorem trT {S T : HS} {am : AM} {n k : Nat} {tr : Nat → Int} {v : Int32} {z : Int} (hk : k + 1 ≤ n) (hv : v = iO z) (hz : bd z (-1) 60) (hch : ∀ j, j < n - (k + 1) → aI T (am 9) j = aI S (am 9) j) (htr : ∀ j, j < n - (k + 1) → aI S (am 9) j = iO (tr j) ∧ bd (tr j) (-1) 60) : ∀ j, j < n - k → aI (tI T (am 9) (n - (k + 1)) v) (am 9) j = iO (fup tr (n - (k + 1)) z j) ∧ bd (fup tr (n - (k + 1)) z j) (-1) 60 := by
  intro j hj
  rw [aI_tI1]
  unfold fup
  by_cases h : j = n - (k + 1)
  · rw [if_pos h, if_pos h]; exact ⟨hv, hz⟩
  · rw [if_neg h, if_neg h, hch j (by omega)]
    exact htr j (by omega)
theorem stepT {u : HS} {am : AM} {q : AS} {b : Option OC} {c0 : Int} {tr : Nat → Int} {k t : Nat} (hk : k + 1 ≤ cn q 0) (h1 : 0 ≤ cmM q (cn q 0 - (k + 1)) t) (h2 : usT tr (cn q 0 - (k + 1)) t = false)
    (h : BN u am (cn q 0) (upB (upF b c0 (cn q 0 - (k + 1)) tr (optF (cmM q) (cn q 0 - (k + 1)) (usT tr (cn q 0 - (k + 1))) (fun i => opt (cmM q) (gsq q) (cn q 1) (cn q 0) k (bup (usT tr (cn q 0 - (k + 1))) i)) t)) (c0 + cmM q (cn q 0 - (k + 1)) t) (cn q 0 - k) (fup tr (cn q 0 - (k + 1)) (t : Int)) (opt (cmM q) (gsq q) (cn q 1) (cn q 0) k (usT (fup tr (cn q 0 - (k + 1)) (t : Int)) (cn q 0 - k))))) :
    BN u am (cn q 0) (upF b c0 (cn q 0 - (k + 1)) tr (optF (cmM q) (cn q 0 - (k + 1)) (usT tr (cn q 0 - (k + 1))) (fun i => opt (cmM q) (gsq q) (cn q 1) (cn q 0) k (bup (usT tr (cn q 0 - (k + 1))) i)) (t + 1))) := by
  have e9 : cn q 0 - k = cn q 0 - (k + 1) + 1 := by omega
  rw [e9, usT_s, upB_none (fun j hj => fup_if hj)] at h
  rw [optF_some ⟨h1, h2⟩]
  exact h
theorem lastT {u : HS} {am : AM} {q : AS} {b : Option OC} {c0 : Int} {tr : Nat → Int} {k : Nat} (hk : k + 1 ≤ cn q 0)
    (h : BN u am (cn q 0) (upB (upF b c0 (cn q 0 - (k + 1)) tr (optF (cmM q) (cn q 0 - (k + 1)) (usT tr (cn q 0 - (k + 1))) (fun i => opt (cmM q) (gsq q) (cn q 1) (cn q 0) k (bup (usT tr (cn q 0 - (k + 1))) i)) (cn q 1))) (c0 + gsq q) (cn q 0 - k) (fup tr (cn q 0 - (k + 1)) (-1)) (opt (cmM q) (gsq q) (cn q 1) (cn q 0) k (usT (fup tr (cn q 0 - (k + 1)) (-1)) (cn q 0 - k))))) :
    BN u am (cn q 0) (upB b c0 (cn q 0 - (k + 1)) tr (opt (cmM q) (gsq q) (cn q 1) (cn q 0) (k + 1) (usT tr (cn q 0 - (k + 1))))) := by
  have e9 : cn q 0 - k = cn q 0 - (k + 1) + 1 := by omega
  rw [e9, usT_n, upB_none (fun j hj => fup_if hj)] at h
  exact h
set_option maxRecDepth 100000 in
set_option maxHeartbeats 4000000 in
theorem lp_X5_tries {l : Launch} {pP : Program} {eE : Env} {sS : State} {mM : MethodId} {aA : Array Value} {bB : List Frame} {tT : Method} {cC : Code} {G : GT} {A : Nat → Prop} {Q : State → Prop}  (S : HS) (am : AM) (q : AS) (hB : BI q) (hA : NA S am (cn q 1)) (hV : NV S am q) (k : Nat) (hk1 : k + 1 ≤ cn q 0) (IH : TryOK l am q k) (c0 : Int) (tr : Nat → Int) (b : Option OC) (hc0 : bd c0 0 (64000000 * (cn q 0 - (k + 1) : Nat))) (hbn : BN S am (cn q 0) b) (htr : ∀ j, j < cn q 0 - (k + 1) → aI S (am 9) j = iO (tr j) ∧ bd (tr j) (-1) 60)  (C : Cx pP l eE (rmD (12 + (k + 1)) 0 0) sS mM aA bB tT cC cX5_tries 7 RX5 G A) (kk : ∀ T : HS, FrS S T am ∧ (∀ j, j < (cn q 0 - (k + 1)) → aI T (am 9) j = aI S (am 9) j) ∧ BN T am (cn q 0) (upF b c0 (cn q 0 - (k + 1)) tr (optF (cmM q) (cn q 0 - (k + 1)) (usT tr (cn q 0 - (k + 1))) (fun i => opt (cmM q) (gsq q) (cn q 1) (cn q 0) k (bup (usT tr (cn q 0 - (k + 1))) i)) (cn q 1))) → V pP l eE (rmD (12 + (k + 1)) 0 0) sS mM aA bB tT cC 7 G A T 0 0 Q 161 [(0, .ref (am 0)), (1, .int (nI (cn q 0 - (k + 1)))), (2, .long (lO c0)), (4, .int (nI (cn q 1)))] []) : ∀ (N : Nat) (t : Nat) (T : HS), (hN9 : cn q 1 + 1 ≤ t + N) → (hi : t ≤ cn q 1) → (hinv : FrS S T am ∧ (∀ j, j < (cn q 0 - (k + 1)) → aI T (am 9) j = aI S (am 9) j) ∧ BN T am (cn q 0) (upF b c0 (cn q 0 - (k + 1)) tr (optF (cmM q) (cn q 0 - (k + 1)) (usT tr (cn q 0 - (k + 1))) (fun i => opt (cmM q) (gsq q) (cn q 1) (cn q 0) k (bup (usT tr (cn q 0 - (k + 1))) i)) t))) → V pP l eE (rmD (12 + (k + 1)) 0 0) sS mM aA bB tT cC 7 G A T 0 0 Q 69 [(0, .ref (am 0)), (1, .int (nI (cn q 0 - (k + 1)))), (2, .long (lO c0)), (4, .int (nI t))] [] := by
  intro N
  induction N with
  | zero =>
    intro t T hN9 hi hinv
    exact absurd hN9 (by omega)
  | succ N ih =>
    intro t T hN9 hi hinv
    obtain ⟨hF, hch, hbT⟩ := hinv
    have hAT := hF.N.toA hA
    have hVT := hF.N.toV hA hV
    have h04 := hB.b0
    have h60 := hA.hn
    refine v_iload C 3 rfl dX5_tries_69 ?_
    refine v_aload_n C 0 rfl rfl dX5_tries_71 ?_
    refine v_getI C (nI (cn q 1)) fl_RX5_71 hAT.k0 hVT.v44 dX5_tries_72 ?_
    refine v_icmp_ge C 161 (by decide) dX5_tries_75 (fun c75 => ?_) (fun c75 => ?_)
    · obtain rfl : t = cn q 1 := by have := nge c75 (by omega); omega
      exact V.sub [0, 1, 2, 3] rfl (kk T ⟨hF, hch, hbT⟩)
    · have ht : t < cn q 1 := nlt c75 (by omega)
      refine v_aload_n C 0 rfl rfl dX5_tries_78 ?_
      refine v_iload_n C 1 rfl rfl dX5_tries_79 ?_
      refine v_iload C 3 rfl dX5_tries_80 ?_
      refine v_callVi C (st := []) [.int (nI (cn q 0 - (k + 1))), .int (nI t)] (c_X5_takes l T am q hB hAT hVT (cn q 0 - (k + 1)) (by omega) t ht) ml_RX5_140 mi_yX5_takes hAT.k0 (by decide) (by decide +kernel) rfl (Nat.le_of_ble_eq_true rfl) (by show _ ≤ 12 + (k + 1); omega) (by show _ ≤ 40 * (12 + (k + 1)); omega) (Nat.le_of_ble_eq_true rfl) (Nat.le_of_ble_eq_true rfl) dX5_tries_82 (fun r u h => ?_) _ rfl
      obtain ⟨rfl, rfl⟩ := h
      refine v_istore C [(5, .int (bI (zz q 3 t 7 = 0 ∧ 0 ≤ ctk q (cn q 0 - (k + 1)) t))), (0, .ref (am 0)), (1, .int (nI (cn q 0 - (k + 1)))), (2, .long (lO c0)), (4, .int (nI t))] (by decide) rfl dX5_tries_85 ?_
      refine v_iconst C 0 (by decide) dX5_tries_87 ?_
      refine v_istore C [(6, .int 0), (5, .int (bI (zz q 3 t 7 = 0 ∧ 0 ≤ ctk q (cn q 0 - (k + 1)) t))), (0, .ref (am 0)), (1, .int (nI (cn q 0 - (k + 1)))), (2, .long (lO c0)), (4, .int (nI t))] (by decide) rfl dX5_tries_88 ?_
      have e0 : (bI (zz q 3 t 7 = 0 ∧ 0 ≤ ctk q (cn q 0 - (k + 1)) t)) = (bI ((zz q 3 t 7 = 0 ∧ 0 ≤ ctk q (cn q 0 - (k + 1)) t) ∧ usT tr 0 t = false)) := bI_iff ⟨fun z => ⟨z, rfl⟩, fun z => z.1⟩
      refine V.lvs (lv2 := [(6, .int 0), (5, .int (bI ((zz q 3 t 7 = 0 ∧ 0 ≤ ctk q (cn q 0 - (k + 1)) t) ∧ usT tr 0 t = false))), (0, .ref (am 0)), (1, .int (nI (cn q 0 - (k + 1)))), (2, .long (lO c0)), (4, .int (nI t))]) (by rw [← e0]) ?_
      refine V.sub [2, 3, 4, 5, 1, 0] rfl (lp_X5_free T am q k hk1 c0 tr t hB hAT ht (fun j hj => by rw [hch j hj]; exact htr j hj) C (fun z => ?_) ((cn q 0 - (k + 1)) + 1) 0 (by omega) (by omega))
      refine v_iload C 4 rfl dX5_tries_126 ?_
      refine v_if_eq C 155 (by decide) dX5_tries_128 (fun c128 => ?_) (fun c128 => ?_)
      · refine v_iinc C (nI (t + 1)) 3 [(4, .int (nI (t + 1))), (0, .ref (am 0)), (1, .int (nI (cn q 0 - (k + 1)))), (2, .long (lO c0)), (5, .int (bI ((zz q 3 t 7 = 0 ∧ 0 ≤ ctk q (cn q 0 - (k + 1)) t) ∧ usT tr (cn q 0 - (k + 1)) t = false))), (6, .int z)] rfl (by rw [← nI_1]; rfl) (by decide) rfl dX5_tries_155 ?_
        refine v_goto C 69 (by decide) dX5_tries_158 ?_
        exact V.sub [1, 2, 3, 0] rfl (ih (t + 1) T (by omega) (by omega) ⟨hF, hch, by rw [optF_skip (fun z => bI_e0 c128 ⟨cmM_i.mp z.1, z.2⟩)]; exact hbT⟩)
      · have hy := bI_n0 c128
        have hcm : 0 ≤ cmM q (cn q 0 - (k + 1)) t := cmM_i.mpr hy.1
        refine v_aload_n C 0 rfl rfl dX5_tries_131 ?_
        refine v_getR C (am 9) fl_RX5_53 hAT.k0 hAT.r58 dX5_tries_132 ?_
        refine v_iload_n C 1 rfl rfl dX5_tries_135 ?_
        refine v_iload C 3 rfl dX5_tries_136 ?_
        refine v_iastj C (cn q 0 - (k + 1)) (nI_clamp (by omega)) hAT.k9 (vpi hAT.n9 (vp_in_nI (by omega) (by decide))) dX5_tries_138 ?_
        have hFT0 := hF.tr (FrS.A (j := (cn q 0 - (k + 1))) (v := nI t) (Or.inl rfl))
        refine v_aload_n C 0 rfl rfl dX5_tries_139 ?_
        refine v_iload_n C 1 rfl rfl dX5_tries_140 ?_
        refine v_iconst C 1 (by decide) dX5_tries_141 ?_
        refine v_iadd C dX5_tries_142 ?_
        refine v_lload_n C 2 rfl rfl dX5_tries_143 ?_
        refine v_aload_n C 0 rfl rfl dX5_tries_144 ?_
        refine v_iload_n C 1 rfl rfl dX5_tries_145 ?_
        refine v_iload C 3 rfl dX5_tries_146 ?_
        refine v_callVl C (st := [.long (lO c0), .int ((nI (cn q 0 - (k + 1))) + 1), .ref (am 0)]) [.int (nI (cn q 0 - (k + 1))), .int (nI t)] (c_X5_distanceOf l (tI T (am 9) (cn q 0 - (k + 1)) (nI t)) am q hB (hFT0.N.toA hA) (hFT0.N.toV hA hV) (cn q 0 - (k + 1)) (by omega) t ht) ml_RX5_126 mi_yX5_distanceOf hAT.k0 (by decide) (by decide +kernel) rfl (Nat.le_of_ble_eq_true rfl) (by show _ ≤ 12 + (k + 1); omega) (by show _ ≤ 40 * (12 + (k + 1)); omega) (Nat.le_of_ble_eq_true rfl) (Nat.le_of_ble_eq_true rfl) dX5_tries_148 (fun r u h => ?_) _ rfl
        obtain ⟨rfl, rfl⟩ := h
        refine v_ladd C dX5_tries_151 ?_
        rw [cmM_d hcm, nr_1q hk1, lO_add]
        have hcb : bd (c0 + cmM q (cn q 0 - (k + 1)) t) 0 (64000000 * (cn q 0 - k : Nat)) := cbound hk1 hc0 hcm (cmM_b hB (by omega) ht)
        have hFT := hF.tr (FrS.A (j := (cn q 0 - (k + 1))) (v := nI t) (Or.inl rfl))
        refine v_callVv C (st := []) [.int (nI (cn q 0 - k)), .long (lO (c0 + cmM q (cn q 0 - (k + 1)) t))] (IH (tI T (am 9) (cn q 0 - (k + 1)) (nI t)) (c0 + cmM q (cn q 0 - (k + 1)) t) (fup tr (cn q 0 - (k + 1)) (t : Int)) (upF b c0 (cn q 0 - (k + 1)) tr (optF (cmM q) (cn q 0 - (k + 1)) (usT tr (cn q 0 - (k + 1))) (fun i => opt (cmM q) (gsq q) (cn q 1) (cn q 0) k (bup (usT tr (cn q 0 - (k + 1))) i)) t)) (hFT.N.toA hA) (hFT.N.toV hA hV) hcb (hbT.of rfl (aI_tI2 (hA.apt (by decide) (by decide) (by decide)))) (trT hk1 (nI_iO t) (by unfold bd; omega) hch htr)) ml_RX5_143 mi_yX5_tries hAT.k0 (by decide) (by decide +kernel) rfl (Nat.le_of_ble_eq_true rfl) (by show 12 + k + 1 ≤ 12 + (k + 1); omega) (by show 8 + (7 + 11) + 40 * (12 + k) ≤ 40 * (12 + (k + 1)); omega) (Nat.le_of_ble_eq_true rfl) (Nat.le_of_ble_eq_true rfl) dX5_tries_152 (fun u h => ?_) _ rfl
        obtain ⟨hE2, hch2, hb2⟩ := h
        refine v_iinc C (nI (t + 1)) 3 [(4, .int (nI (t + 1))), (0, .ref (am 0)), (1, .int (nI (cn q 0 - (k + 1)))), (2, .long (lO c0)), (5, .int (bI ((zz q 3 t 7 = 0 ∧ 0 ≤ ctk q (cn q 0 - (k + 1)) t) ∧ usT tr (cn q 0 - (k + 1)) t = false))), (6, .int z)] rfl (by rw [← nI_1]; rfl) (by decide) rfl dX5_tries_155 ?_
        refine v_goto C 69 (by decide) dX5_tries_158 ?_
        exact V.sub [1, 2, 3, 0] rfl (ih (t + 1) u (by omega) (by omega) ⟨hFT.tr hE2, fun j hj => by rw [hch2 j (by omega), aI_tI1, if_neg (by omega), hch j hj], stepT hk1 hcm hy.2 hb2⟩)
set_option maxRecDepth 100000 in
set_option maxHeartbeats 4000000 in
theorem c_X5_triesS (l : Launch) (S : HS) (am : AM) (q : AS) (hB : BI q) (hA : NA S am (cn q 1)) (hV : NV S am q) (k : Nat) (hk1 : k + 1 ≤ cn q 0) (IH : TryOK l am q k) (c0 : Int) (tr : Nat → Int) (b : Option OC) (hc0 : bd c0 0 (64000000 * (cn q 0 - (k + 1) : Nat))) (hbn : BN S am (cn q 0) b) (htr : ∀ j, j < cn q 0 - (k + 1) → aI S (am 9) j = iO (tr j) ∧ bd (tr j) (-1) 60)  : cM l yX5_tries cX5_tries 7 (Option.none : Option Jvm.ClassFile.FieldType) (12 + (k + 1)) [.ref (am 0), .int (nI (cn q 0 - (k + 1))), .long (lO c0)] S (pV fun u => FrS S u am ∧ (∀ j, j < cn q 0 - (k + 1) → aI u (am 9) j = aI S (am 9) j) ∧ BN u am (cn q 0) (upB b c0 (cn q 0 - (k + 1)) tr (opt (cmM q) (gsq q) (cn q 1) (cn q 0) (k + 1) (usT tr (cn q 0 - (k + 1)))))) 0 0 := by
  refine cM_intro (by decide +kernel) cd_X5_tries (Nat.le_of_ble_eq_true rfl) ?_
  intro pP eE sS mM aA bB tT cC G A C hRT hin
  refine V.lvs (lv2 := [(0, .ref (am 0)), (1, .int (nI (cn q 0 - (k + 1)))), (2, .long (lO c0))]) rfl ?_
  have h04 := hB.b0
  have h60 := hA.hn
  refine v_iload_n C 1 rfl rfl dX5_tries_0 ?_
  refine v_aload_n C 0 rfl rfl dX5_tries_1 ?_
  refine v_getI C (nI (cn q 0)) fl_RX5_111 hA.k0 hV.v50 dX5_tries_2 ?_
  refine v_icmp_ne C 66 (by decide) dX5_tries_5 (fun c5 => ?_) (fun q => ((absurd (nI_inj q (by omega) (by omega)) (by omega) : False)).elim)
  refine v_iconst C 0 (by decide) dX5_tries_66 ?_
  refine v_istore C [(4, .int 0), (0, .ref (am 0)), (1, .int (nI (cn q 0 - (k + 1)))), (2, .long (lO c0))] (by decide) rfl dX5_tries_67 ?_
  refine V.sub [1, 2, 3, 0] rfl (lp_X5_tries S am q hB hA hV k hk1 IH c0 tr b hc0 hbn htr C (fun T hT => ?_) (cn q 1 + 1) 0 S (by omega) (by omega) ⟨FrS.rf, fun _ _ => rfl, hbn⟩)
  obtain ⟨hF, hch, hbT⟩ := hT
  have hAT := hF.N.toA hA
  have hVT := hF.N.toV hA hV
  have h04 := hB.b0
  have h60 := hA.hn
  refine v_aload_n C 0 rfl rfl dX5_tries_161 ?_
  refine v_getR C (am 9) fl_RX5_53 hAT.k0 hAT.r58 dX5_tries_162 ?_
  refine v_iload_n C 1 rfl rfl dX5_tries_165 ?_
  refine v_iconst C (-1) (by decide) dX5_tries_166 ?_
  refine v_iastj C (cn q 0 - (k + 1)) (nI_clamp (by omega)) hAT.k9 (vpi hAT.n9 (vp_in_nI (by omega) (by decide))) dX5_tries_167 ?_
  have hFT0 := hF.tr (FrS.A (j := (cn q 0 - (k + 1))) (v := -1) (Or.inl rfl))
  refine v_aload_n C 0 rfl rfl dX5_tries_168 ?_
  refine v_iload_n C 1 rfl rfl dX5_tries_169 ?_
  refine v_iconst C 1 (by decide) dX5_tries_170 ?_
  refine v_iadd C dX5_tries_171 ?_
  refine v_lload_n C 2 rfl rfl dX5_tries_172 ?_
  refine v_aload_n C 0 rfl rfl dX5_tries_173 ?_
  refine v_callVl C (st := [.long (lO c0), .int ((nI (cn q 0 - (k + 1))) + 1), .ref (am 0)]) [] (c_X5_gateSquare l (tI T (am 9) (cn q 0 - (k + 1)) (-1)) am q hB (hFT0.N.toA hA) (hFT0.N.toV hA hV)) ml_RX5_130 mi_yX5_gateSquare hAT.k0 (by decide) (by decide +kernel) rfl (Nat.le_of_ble_eq_true rfl) (by show _ ≤ 12 + (k + 1); omega) (by show _ ≤ 40 * (12 + (k + 1)); omega) (Nat.le_of_ble_eq_true rfl) (Nat.le_of_ble_eq_true rfl) dX5_tries_174 (fun r u h => ?_) _ rfl
  obtain ⟨rfl, rfl⟩ := h
  refine v_ladd C dX5_tries_177 ?_
  rw [nr_1q hk1, lO_add]
  have hgb := gsq_bd hB
  have hcb : bd (c0 + gsq q) 0 (64000000 * (cn q 0 - k : Nat)) := gbound hk1 hc0 (by unfold bd at *; omega)
  have hFT := hF.tr (FrS.A (j := (cn q 0 - (k + 1))) (v := -1) (Or.inl rfl))
  refine v_callVv C (st := []) [.int (nI (cn q 0 - k)), .long (lO (c0 + gsq q))] (IH (tI T (am 9) (cn q 0 - (k + 1)) (-1)) (c0 + gsq q) (fup tr (cn q 0 - (k + 1)) (-1)) (upF b c0 (cn q 0 - (k + 1)) tr (optF (cmM q) (cn q 0 - (k + 1)) (usT tr (cn q 0 - (k + 1))) (fun i => opt (cmM q) (gsq q) (cn q 1) (cn q 0) k (bup (usT tr (cn q 0 - (k + 1))) i)) (cn q 1))) (hFT.N.toA hA) (hFT.N.toV hA hV) hcb (hbT.of rfl (aI_tI2 (hA.apt (by decide) (by decide) (by decide)))) (trT hk1 rfl (by unfold bd; omega) hch htr)) ml_RX5_143 mi_yX5_tries hAT.k0 (by decide) (by decide +kernel) rfl (Nat.le_of_ble_eq_true rfl) (by show 12 + k + 1 ≤ 12 + (k + 1); omega) (by show 8 + (7 + 11) + 40 * (12 + k) ≤ 40 * (12 + (k + 1)); omega) (Nat.le_of_ble_eq_true rfl) (Nat.le_of_ble_eq_true rfl) dX5_tries_178 (fun u h => ?_) _ rfl
  obtain ⟨hE2, hch2, hb2⟩ := h
  exact v_vret C hRT (Nat.le_of_ble_eq_true rfl) (Nat.le_of_ble_eq_true rfl) dX5_tries_181 ⟨rfl, hFT.tr hE2, fun j hj => by rw [hch2 j (by omega), aI_tI1, if_neg (by omega), hch j hj], lastT hk1 hb2⟩
theorem tryOK {l : Launch} {am : AM} {q : AS} (hB : BI q) : ∀ k, k ≤ cn q 0 → TryOK l am q k
  | 0, _ => fun S c0 tr b hA hV hc0 hbn htr => c_X5_tries0 l S am q hB hA hV c0 tr b hc0 hbn htr
  | k + 1, hk => fun S c0 tr b hA hV hc0 hbn htr => c_X5_triesS l S am q hB hA hV k hk (tryOK hB k (by omega)) c0 tr b hc0 hbn htr
theorem bestT {u : HS} {am : AM} {q : AS} (h : BN u am (cn q 0) (upB none 0 0 (fun _ => 0) (opt (cmM q) (gsq q) (cn q 1) (cn q 0) (cn q 0) (usT (fun _ => 0) 0)))) : hJ u 60 (am 0) = lO (optA q).1 ∧ ∀ r, r < cn q 0 → aI u (am 10) r = iO (gtA q r) := by
  obtain ⟨h1, h2, h3⟩ := h
  have e : opt (cmM q) (gsq q) (cn q 1) (cn q 0) (cn q 0) (usT (fun _ => 0) 0) = optM q := rfl
  rw [e] at h1 h2 h3
  obtain ⟨m1, m2⟩ := optM_eq q
  refine ⟨?_, fun r hr => ?_⟩
  · rw [h1]
    show lO (0 + (optM q).1) = _
    rw [Int.zero_add, m1]
  · rw [h3 r hr]
    show iO (if r < 0 then (fun _ => (0 : Int)) r else (optM q).2 r) = _
    rw [if_neg (Nat.not_lt_zero r), m2 r hr]
set_option maxRecDepth 100000 in
set_option maxHeartbeats 4000000 in
theorem c_X5_looks (l : Launch) (S : HS) (am : AM) (q : AS) (hB : BI q) (hA : NA S am (cn q 1)) (hV : NV S am q)  : cM l yX5_looks cX5_looks 1 (Option.none : Option Jvm.ClassFile.FieldType) 18 [.ref (am 0)] S (pV fun u => FrS S u am ∧ hJ u 60 (am 0) = lO (optA q).1 ∧ (∀ r, r < cn q 0 → aI u (am 10) r = iO (gtA q r))) 0 0 := by
  refine cM_intro (by decide +kernel) cd_X5_looks (Nat.le_of_ble_eq_true rfl) ?_
  intro pP eE sS mM aA bB tT cC G A C hRT hin
  refine V.lvs (lv2 := [(0, .ref (am 0))]) rfl ?_
  refine v_aload_n C 0 rfl rfl dX5_looks_0 ?_
  refine v_ldc2 C kl_RX5_138 dX5_looks_1 ?_
  refine v_putJ C fl_RX5_134 hA.k0 rfl rfl dX5_looks_4 ?_
  refine v_aload_n C 0 rfl rfl dX5_looks_7 ?_
  refine v_iconst C 0 (by decide) dX5_looks_8 ?_
  refine v_lconst C 0 (by decide) dX5_looks_9 ?_
  have h04 := hB.b0
  have key := tryOK (l := l) (am := am) hB (cn q 0) (Nat.le_refl _) (sJ S 60 (am 0) (-1)) 0 (fun _ => 0) none (hA.of rfl rfl rfl rfl) (FrS.J.N.toV hA hV) (by rw [Nat.sub_self]; exact ⟨Int.le_refl 0, Int.le_refl 0⟩) (show BN (sJ S 60 (am 0) (-1)) am (cn q 0) none from hJ_sJ1) (fun j hj => by rw [Nat.sub_self] at hj; exact absurd hj (Nat.not_lt_zero j))
  rw [Nat.sub_self] at key
  refine v_callVv C (st := []) [.int 0, .long 0] key ml_RX5_143 mi_yX5_tries hA.k0 (by decide) (by decide +kernel) rfl (Nat.le_of_ble_eq_true rfl) (by show 12 + cn q 0 + 1 ≤ 18; omega) (by show 8 + (7 + 11) + 40 * (12 + cn q 0) ≤ 40 * 18; omega) (Nat.le_of_ble_eq_true rfl) (Nat.le_of_ble_eq_true rfl) dX5_looks_10 (fun u h => ?_) _ rfl
  obtain ⟨hF, -, hb⟩ := h
  have hF2 : FrS S u am := FrS.J.tr hF
  have hbb := bestT hb
  exact v_vret C hRT (Nat.le_of_ble_eq_true rfl) (Nat.le_of_ble_eq_true rfl) dX5_looks_13 ⟨rfl, hF2, hbb.1, hbb.2⟩
set_option maxRecDepth 100000 in
set_option maxHeartbeats 4000000 in
theorem c_X5_bestCost (l : Launch) (S : HS) (am : AM) (q : AS) (hB : BI q) (hA : NA S am (cn q 1)) (hV : NV S am q)  : cM l yX5_bestCost cX5_bestCost 1 (Option.some Jvm.ClassFile.FieldType.long) 20 [.ref (am 0)] S (pL fun r u => FrN S u am ∧ hI u 61 (am 0) = 0 ∧ lO (optA q).1 = r) 0 0 := by
  refine cM_intro (by decide +kernel) cd_X5_bestCost (Nat.le_of_ble_eq_true rfl) ?_
  intro pP eE sS mM aA bB tT cC G A C hRT hin
  refine V.lvs (lv2 := [(0, .ref (am 0))]) rfl ?_
  refine v_aload_n C 0 rfl rfl dX5_bestCost_0 ?_
  refine v_iconst C 0 (by decide) dX5_bestCost_1 ?_
  refine v_putI C fl_RX5_62 hA.k0 rfl rfl dX5_bestCost_2 ?_
  refine v_aload_n C 0 rfl rfl dX5_bestCost_5 ?_
  refine v_callVv C (st := []) [] (c_X5_looks l (sI S 61 (am 0) 0) am q hB ((FrN.I (v := 0)).toA hA) ((FrN.I (v := 0)).toV hA hV)) ml_RX5_179 mi_yX5_looks hA.k0 (by decide) (by decide +kernel) rfl (Nat.le_of_ble_eq_true rfl) (Nat.le_of_ble_eq_true rfl) (Nat.le_of_ble_eq_true rfl) (Nat.le_of_ble_eq_true rfl) (Nat.le_of_ble_eq_true rfl) dX5_bestCost_6 (fun u h => ?_) _ rfl
  obtain ⟨hF, hJ6, hb6⟩ := h
  have hF9 : FrN S u am := FrN.I.tr hF.N
  have h61 : hI u 61 (am 0) = 0 := (hF.2.2.2.1 61 (am 0)).trans hI_sI1
  have hA9 := hF9.toA hA
  have hV9 := hF9.toV hA hV
  refine v_aload_n C 0 rfl rfl dX5_bestCost_9 ?_
  refine v_getJ C (lO (optA q).1) fl_RX5_134 hA9.k0 hJ6 dX5_bestCost_10 ?_
  exact v_lret C hRT (Nat.le_of_ble_eq_true rfl) (Nat.le_of_ble_eq_true rfl) dX5_bestCost_13 ⟨_, rfl, hF9, h61, rfl⟩
set_option maxRecDepth 100000 in
set_option maxHeartbeats 4000000 in
theorem c_X5_bestCostByTrying (l : Launch) (S : HS) (am : AM) (q : AS) (hB : BI q) (hA : NA S am (cn q 1)) (hV : NV S am q)  : cM l yX5_bestCostByTrying cX5_bestCostByTrying 1 (Option.some Jvm.ClassFile.FieldType.long) 22 [.ref (am 0)] S (pL fun r u => FrN S u am ∧ hI u 61 (am 0) = 0 ∧ lO (optA q).1 = r) 0 0 := by
  refine cM_intro (by decide +kernel) cd_X5_bestCostByTrying (Nat.le_of_ble_eq_true rfl) ?_
  intro pP eE sS mM aA bB tT cC G A C hRT hin
  refine V.lvs (lv2 := [(0, .ref (am 0))]) rfl ?_
  refine v_aload_n C 0 rfl rfl dX5_bestCostByTrying_0 ?_
  refine v_callVl C (st := []) [] (c_X5_bestCost l S am q hB hA hV) ml_RX5_205 mi_yX5_bestCost hA.k0 (by decide) (by decide +kernel) rfl (Nat.le_of_ble_eq_true rfl) (Nat.le_of_ble_eq_true rfl) (Nat.le_of_ble_eq_true rfl) (Nat.le_of_ble_eq_true rfl) (Nat.le_of_ble_eq_true rfl) dX5_bestCostByTrying_1 (fun r u h => ?_) _ rfl
  obtain ⟨hF, h61, rfl⟩ := h
  exact v_lret C hRT (Nat.le_of_ble_eq_true rfl) (Nat.le_of_ble_eq_true rfl) dX5_bestCostByTrying_4 ⟨_, rfl, hF, h61, rfl⟩
set_option maxRecDepth 100000 in
set_option maxHeartbeats 4000000 in
theorem c_X5_goesTo (l : Launch) (S : HS) (am : AM) (q : AS) (hB : BI q) (hA : NA S am (cn q 1)) (hV : NV S am q) (i : Int32) : cM l yX5_goesTo cX5_goesTo 2 (Option.some Jvm.ClassFile.FieldType.int) 20 [.ref (am 0), .int i] S (pI fun r u => (∃ k, k < cn q 0 ∧ i = nI k ∧ FrN S u am ∧ hI u 61 (am 0) = 0 ∧ iO (gtA q k) = r) ∨ (¬ isRp q i ∧ FrN S u am ∧ hI u 61 (am 0) = 1)) 0 0 := by
  refine cM_intro (by decide +kernel) cd_X5_goesTo (Nat.le_of_ble_eq_true rfl) ?_
  intro pP eE sS mM aA bB tT cC G A C hRT hin
  refine V.lvs (lv2 := [(0, .ref (am 0)), (1, .int i)]) rfl ?_
  refine v_aload_n C 0 rfl rfl dX5_goesTo_0 ?_
  refine v_iload_n C 1 rfl rfl dX5_goesTo_1 ?_
  refine v_i2l C dX5_goesTo_2 ?_
  refine v_lconst C 0 (by decide) dX5_goesTo_3 ?_
  refine v_aload_n C 0 rfl rfl dX5_goesTo_4 ?_
  refine v_getI C (nI (cn q 0)) fl_RX5_111 hA.k0 hV.v50 dX5_goesTo_5 ?_
  refine v_iconst C 1 (by decide) dX5_goesTo_8 ?_
  refine v_isub C dX5_goesTo_9 ?_
  refine v_i2l C dX5_goesTo_10 ?_
  refine v_callSi C (st := [.ref (am 0)]) [.long i.toInt64, .long 0, .long (((nI (cn q 0)) - 1).toInt64)] (c_X5_in l S i.toInt64 0 (((nI (cn q 0)) - 1).toInt64)) ml_RX5_67 ms_yX5_in rfl (Nat.le_of_ble_eq_true rfl) (Nat.le_of_ble_eq_true rfl) (Nat.le_of_ble_eq_true rfl) (Nat.le_of_ble_eq_true rfl) (Nat.le_of_ble_eq_true rfl) dX5_goesTo_11 (fun r u h => ?_) _ rfl
  obtain ⟨rfl, rfl⟩ := h
  refine v_if_eq C 21 (by decide) dX5_goesTo_14 (fun c14 => ?_) (fun c14 => ?_)
  · refine v_iconst C 1 (by decide) dX5_goesTo_21 ?_
    refine v_putI C fl_RX5_62 hA.k0 rfl rfl dX5_goesTo_22 ?_
    refine v_aload_n C 0 rfl rfl dX5_goesTo_25 ?_
    refine v_getI C 1 fl_RX5_62 hA.k0 hI_sI1 dX5_goesTo_26 ?_
    refine v_if_le C 34 (by decide) dX5_goesTo_29 (fun q => absurd q (by decide)) (fun _ => ?_)
    refine v_iconst C (-1) (by decide) dX5_goesTo_32 ?_
    exact v_iret C hRT (Nat.le_of_ble_eq_true rfl) (Nat.le_of_ble_eq_true rfl) dX5_goesTo_33 ⟨_, rfl, Or.inr ⟨fun z => bI_e0 c14 ((rp_I (by have := hB.b0; omega)).mpr z), FrN.I, hI_sI1⟩⟩
  · refine v_iconst C 0 (by decide) dX5_goesTo_17 ?_
    refine v_goto C 22 (by decide) dX5_goesTo_18 ?_
    refine v_putI C fl_RX5_62 hA.k0 rfl rfl dX5_goesTo_22 ?_
    refine v_aload_n C 0 rfl rfl dX5_goesTo_25 ?_
    refine v_getI C 0 fl_RX5_62 hA.k0 hI_sI1 dX5_goesTo_26 ?_
    refine v_if_le C 34 (by decide) dX5_goesTo_29 (fun _ => ?_) (fun q => absurd (by decide) q)
    obtain ⟨k, hk, rfl⟩ := ixI2 (n := cn q 0) ((rp_I (by have := hB.b0; omega)).mp (bI_n0 c14)).1 ((rp_I (by have := hB.b0; omega)).mp (bI_n0 c14)).2 (by have := hB.b0; omega)
    have h04 := hB.b0
    refine v_aload_n C 0 rfl rfl dX5_goesTo_34 ?_
    refine v_callVv C (st := []) [] (c_X5_looks l (sI S 61 (am 0) 0) am q hB ((FrN.I (v := 0)).toA hA) ((FrN.I (v := 0)).toV hA hV)) ml_RX5_179 mi_yX5_looks hA.k0 (by decide) (by decide +kernel) rfl (Nat.le_of_ble_eq_true rfl) (Nat.le_of_ble_eq_true rfl) (Nat.le_of_ble_eq_true rfl) (Nat.le_of_ble_eq_true rfl) (Nat.le_of_ble_eq_true rfl) dX5_goesTo_35 (fun u h => ?_) _ rfl
    obtain ⟨hF, hJ6, hb6⟩ := h
    have hF9 : FrN S u am := FrN.I.tr hF.N
    have h61 : hI u 61 (am 0) = 0 := (hF.2.2.2.1 61 (am 0)).trans hI_sI1
    have hA9 := hF9.toA hA
    have hV9 := hF9.toV hA hV
    refine v_aload_n C 0 rfl rfl dX5_goesTo_38 ?_
    refine v_getR C (am 10) fl_RX5_56 hA9.k0 hA9.r59 dX5_goesTo_39 ?_
    refine v_iload_n C 1 rfl rfl dX5_goesTo_42 ?_
    refine v_iald C (iO (gtA q k)) hA9.k10 (vpi hA9.n10 (vp_in_nI (by omega) (by decide))) ((congrArg _ (nI_clamp (by omega))).trans (hb6 k hk)) dX5_goesTo_43 ?_
    exact v_iret C hRT (Nat.le_of_ble_eq_true rfl) (Nat.le_of_ble_eq_true rfl) dX5_goesTo_44 ⟨_, rfl, Or.inl ⟨k, hk, rfl, hF9, h61, rfl⟩⟩
