theorem nI_add' (a b : Nat) : nI a + nI b = nI (a + b) := by rw [nI_iO, nI_iO, nI_iO, iO_add]; rfl
theorem XV.abs {S : HS} {ad : AD} {q : AS} {a b : Nat} (hA : XA S ad (cn q 1)) (hV : XV S ad q) (ha : a < cn q 1) (hb : b < cn q 1) :
    XV (noteS (sI S 22 (ad 6 a) (hI S 22 (ad 6 a) + hI S 22 (ad 6 b))) (ad 6 a) (ad 7 a) (cn q (100 + a)) 103) ad (absA q a b) := by
  have wa : hI S 22 (ad 6 a) = iO (zz q 3 a 5) := hV.tv a ha 5 (by decide)
  have wb : hI S 22 (ad 6 b) = iO (zz q 3 b 5) := hV.tv b hb 5 (by decide)
  have w24 := hV.t24 a ha
  have w25 := hV.t25 a ha
  have wk : ∀ k, k < 7 → hI S (17 + k) (ad 6 a) = iO (zz q 3 a k) := fun k hk => hV.tv a ha k hk
  obtain ⟨r1, r2, r3⟩ := abs_row q a b
  rw [wa, wb, iO_add]
  refine XV.trk hA hV (FrT.tr (FrT.I (by decide)) FrT.nt) QT.abs ha (fun k hk => ?_) ?_ ?_ ?_ (fun j hj => ?_)
  · by_cases h5 : k = 5
    · subst h5
      rw [r2]
      simp [noteS, hI_sI, hI_tI]
    · rw [r1 k h5, ← wk k hk, hI_note (fun z => absurd z.1 (by omega)), hI_sI2 (fun z => absurd z.1 (by omega))]
  · rw [r1 7 (by decide), ← w24]; simp [noteS, hI_sI, hI_tI]
  · rw [r1 7 (by decide), r1 8 (by decide), ← w25]; simp [noteS, hI_sI, hI_tI]
  · rw [r3]; simp [noteS, hI_sI, nI_1]
  · rw [r3] at hj
    exact vs_nt (S := sI S 22 (ad 6 a) (iO (zz q 3 a 5 + zz q 3 b 5))) (q := zs q 3 a 5 (zz q 3 a 5 + zz q 3 b 5)) (z := 103) rfl rfl (fun j hj => by rw [zz_zs, if_neg (by omega)]; exact hV.sg a ha j hj) j hj
theorem XV.into {S : HS} {ad : AD} {q : AS} {a b : Nat} (hA : XA S ad (cn q 1)) (hV : XV S ad q) (ha : a < cn q 1) (hb : b < cn q 1) :
    XV (noteS (sI (sI S 24 (ad 6 b) 0) 25 (ad 6 b) (hI S 16 (ad 6 a))) (ad 6 b) (ad 7 b) (cn q (100 + b)) 109) ad (intoA q a b) := by
  have w16 := hV.t16 a ha
  have wk : ∀ k, k < 7 → hI S (17 + k) (ad 6 b) = iO (zz q 3 b k) := fun k hk => hV.tv b hb k hk
  obtain ⟨r1, r2, r3, r4⟩ := into_row q a b
  rw [w16, nI_iO]
  refine XV.trk hA hV (FrT.tr (FrT.tr (FrT.I (by decide)) (FrT.I (by decide))) FrT.nt) QT.into hb (fun k hk => ?_) ?_ ?_ ?_ (fun j hj => ?_)
  · rw [r1 k (by omega) (by omega), ← wk k hk, hI_note (fun z => absurd z.1 (by omega)), hI_sI2 (fun z => absurd z.1 (by omega)), hI_sI2 (fun z => absurd z.1 (by omega))]
  · rw [r2]; simp [noteS, hI_sI, hI_tI]; rfl
  · rw [r2, r3, if_pos rfl]; simp [noteS, hI_sI, hI_tI]
  · rw [r4]; simp [noteS, hI_sI, nI_1]
  · rw [r4] at hj
    exact vs_nt (S := sI (sI S 24 (ad 6 b) 0) 25 (ad 6 b) (iO a)) (q := zs (zs q 3 b 7 2) 3 b 8 (a : Int)) (z := 109) rfl rfl (fun j hj => by rw [zz_zs, if_neg (by omega), zz_zs, if_neg (by omega)]; exact hV.sg b hb j hj) j hj
theorem MI_y {a b : Nat} {q : AS} (h : a < b ∧ liveP (MI a q b) b = true ∧ nrA (MI a q b) a b = true) : MI a q (b + 1) = mrgA (MI a q b) a b := if_pos h
theorem MI_n {a b : Nat} {q : AS} (h : ¬ (a < b ∧ liveP (MI a q b) b = true ∧ nrA (MI a q b) a b = true)) : MI a q (b + 1) = MI a q b := if_neg h
theorem MA_y {a : Nat} {q : AS} (h : liveP (MA q a) a = true) : MA q (a + 1) = MI a (MA q a) (cn (MA q a) 1) := if_pos h
theorem MA_n {a : Nat} {q : AS} (h : ¬ liveP (MA q a) a = true) : MA q (a + 1) = MA q a := if_neg h
theorem XV.fin {S : HS} {ad : AD} {q : AS} (hA : XA S ad (cn q 1)) (hV : XV S ad q) : XV (sI (sI S 39 (ad 0 0) (nI (cn q 2) + nI (cn q 0))) 30 (ad 0 0) 0) ad (fin0 q) := by
  have r1 : ∀ f, f ≠ 30 → f ≠ 39 → ∀ a, hI (sI (sI S 39 (ad 0 0) (nI (cn q 2) + nI (cn q 0))) 30 (ad 0 0) 0) f a = hI S f a := fun f h1 h2 a => (hI_sI2 (fun z => h1 z.1)).trans (hI_sI2 (fun z => h2 z.1))
  have c : ∀ k, k ≠ 0 → k ≠ 2 → cn (fin0 q) k = cn q k := fun k h1 h2 => fin_cn q h1 h2
  refine ⟨hI_sI1, by rw [r1 _ (by decide) (by decide), c 1 (by decide) (by decide)]; exact hV.v32, ?_, by rw [r1 _ (by decide) (by decide), c 3 (by decide) (by decide)]; exact hV.v40, by rw [r1 _ (by decide) (by decide)]; exact hV.v34, by rw [r1 _ (by decide) (by decide)]; exact hV.v35, by rw [r1 _ (by decide) (by decide)]; exact hV.v36, by rw [r1 _ (by decide) (by decide)]; exact hV.v37, by rw [r1 _ (by decide) (by decide)]; exact hV.v38,
    fun i hi => by rw [r1 _ (by omega) (by omega), c _ (by omega) (by omega)]; exact hV.c0 i hi, fun i hi k hk => by rw [r1 _ (by omega) (by omega)]; exact hV.c1 i hi k hk, fun i hi k hk => by rw [r1 _ (by omega) (by omega)]; exact hV.p i hi k hk, fun i hi => ?_, fun i hi k hk => ?_, fun i hi => ?_, fun i hi => ?_, fun i hi => ?_, fun i hi j hj => ?_⟩
  · refine (hI_sI2 (fun z => absurd z.1 (by decide))).trans (hI_sI1.trans ((nI_add' _ _).trans ?_))
    unfold fin0
    rw [cn_cs, if_neg (by decide), cn_cs, if_pos rfl]
  all_goals rw [c 1 (by decide) (by decide)] at hi
  · rw [r1 _ (by omega) (by omega)]; exact hV.t16 i hi
  · rw [r1 _ (by omega) (by omega)]; exact hV.tv i hi k hk
  · rw [r1 _ (by omega) (by omega)]; exact hV.t24 i hi
  · rw [r1 _ (by omega) (by omega)]; exact hV.t25 i hi
  · rw [r1 _ (by omega) (by omega), c _ (by omega) (by omega)]; exact hV.t27 i hi
  · rw [c _ (by omega) (by omega)] at hj; exact hV.sg i hi j hj
set_option maxRecDepth 100000 in
set_option maxHeartbeats 4000000 in
theorem lp_X4_mergeLater {l : Launch} {pP : Program} {eE : Env} {sS : State} {mM : MethodId} {aA : Array Value} {bB : List Frame} {tT : Method} {cC : Code} {G : GT} {A : Nat → Prop} {Q : State → Prop}  (S : HS) (ad : AD) (q : AS) (hB : BI q) (B : Nat) (hh : HB q B) (hb3 : B ≤ 301) (a : Nat) (ha : a < cn q 1)  (C : Cx pP l eE (rmD 8 0 0) sS mM aA bB tT cC cX4_mergeLaterOnesInto 4 RX4 G A) (kk : ∀ T : HS, XA T ad (cn q 1) ∧ XV T ad (MI a q (cn q 1)) → V pP l eE (rmD 8 0 0) sS mM aA bB tT cC 4 G A T 0 0 Q 50 [(0, .ref (ad 0 0)), (1, .ref (ad 6 a)), (2, .int (nI (cn q 1)))] []) : ∀ (N : Nat) (b : Nat) (T : HS), (hN9 : cn q 1 + 1 ≤ b + N) → (hi : b ≤ cn q 1) → (hab : a < b) → (hinv : XA T ad (cn q 1) ∧ XV T ad (MI a q b)) → V pP l eE (rmD 8 0 0) sS mM aA bB tT cC 4 G A T 0 0 Q 7 [(0, .ref (ad 0 0)), (1, .ref (ad 6 a)), (2, .int (nI b))] [] := by
  intro N
  induction N with
  | zero =>
    intro b T hN9 hi hab hinv
    exact absurd hN9 (by omega)
  | succ N ih =>
    intro b T hN9 hi hab hinv
    obtain ⟨hAT, hVT⟩ := hinv
    obtain ⟨⟨n1, n2, n3⟩, -⟩ := MI_I hB (a := a) hh hb3 b hi
    have e1 := n3.1 1 (by decide)
    have h60 := hB.b1
    have hAP : XA T ad (cn (MI a q b) 1) := by rw [e1]; exact hAT
    have hv32 : hI T 32 (ad 0 0) = nI (cn q 1) := by rw [hVT.v32, e1]
    refine v_iload_n C 2 rfl rfl dX4_mergeLaterOnesInto_7 ?_
    refine v_aload_n C 0 rfl rfl dX4_mergeLaterOnesInto_8 ?_
    refine v_getI C (nI (cn q 1)) fl_RX4_184 hAT.k0 hv32 dX4_mergeLaterOnesInto_9 ?_
    refine v_icmp_ge C 50 (by decide) dX4_mergeLaterOnesInto_12 (fun c12 => ?_) (fun c12 => ?_)
    · obtain rfl : b = cn q 1 := by have := nge c12 (by omega); omega
      exact V.sub [0, 1, 2] rfl (kk T ⟨hAT, hVT⟩)
    · have hlt : b < cn q 1 := nlt c12 (by omega)
      have hltp : b < cn (MI a q b) 1 := by omega
      have hap : a < cn (MI a q b) 1 := by omega
      by_cases hc : zz (MI a q b) 3 b 7 = 0
      · have hv9 : hI T 24 (ad 6 b) = 1 := by rw [hVT.t24 b hltp]; exact bI1 hc
        refine v_aload_n C 0 rfl rfl dX4_mergeLaterOnesInto_15 ?_
        refine v_iload_n C 2 rfl rfl dX4_mergeLaterOnesInto_16 ?_
        refine v_callVq C (st := []) [.int (nI b)] (c_X4_liveTrackAt_y l T ad (cn q 1) b hAT hlt hv9) ml_RX4_187 mi_yX4_liveTrackAt hAT.k0 (by decide) (by decide +kernel) rfl (Nat.le_of_ble_eq_true rfl) (Nat.le_of_ble_eq_true rfl) (Nat.le_of_ble_eq_true rfl) (Nat.le_of_ble_eq_true rfl) (Nat.le_of_ble_eq_true rfl) dX4_mergeLaterOnesInto_17 (fun r u h => ?_) _ rfl
        obtain ⟨rfl, rfl⟩ := h
        refine v_astore_n C [(3, .ref (ad 6 b)), (0, .ref (ad 0 0)), (1, .ref (ad 6 a)), (2, .int (nI b))] (by decide) rfl rfl dX4_mergeLaterOnesInto_20 ?_
        refine v_aload_n C 0 rfl rfl dX4_mergeLaterOnesInto_21 ?_
        refine v_ifnull C dX4_mergeLaterOnesInto_22 ?_
        refine v_aload_n C 1 rfl rfl dX4_mergeLaterOnesInto_25 ?_
        refine v_aload_n C 2 rfl rfl dX4_mergeLaterOnesInto_26 ?_
        refine v_aload_n C 0 rfl rfl dX4_mergeLaterOnesInto_27 ?_
        refine v_callVi C (st := []) [.ref (ad 6 a), .ref (ad 6 b)] (c_X4_areNear l T ad (MI a q b) n1 a b hap hltp hAP hVT) ml_RX4_258 mi_yX4_areNear hAT.k0 (by decide) (by decide +kernel) rfl (Nat.le_of_ble_eq_true rfl) (Nat.le_of_ble_eq_true rfl) (Nat.le_of_ble_eq_true rfl) (Nat.le_of_ble_eq_true rfl) (Nat.le_of_ble_eq_true rfl) dX4_mergeLaterOnesInto_28 (fun r u h => ?_) _ rfl
        obtain ⟨rfl, rfl⟩ := h
        refine v_if_eq C 44 (by decide) dX4_mergeLaterOnesInto_31 (fun c31 => ?_) (fun c31 => ?_)
        · refine v_iinc C (nI (b + 1)) 3 [(2, .int (nI (b + 1))), (3, .ref (ad 6 b)), (0, .ref (ad 0 0)), (1, .ref (ad 6 a))] rfl (by rw [← nI_1]; rfl) (by decide) rfl dX4_mergeLaterOnesInto_44 ?_
          refine v_goto C 7 (by decide) dX4_mergeLaterOnesInto_47 ?_
          have ef := MI_n (a := a) (b := b) (q := q) (fun z => bI_e0 c31 z.2.2)
          exact V.sub [2, 3, 0] rfl (ih (b + 1) T (by omega) hlt (by omega) ⟨hAT, by rw [ef]; exact hVT⟩)
        · refine v_aload_n C 2 rfl rfl dX4_mergeLaterOnesInto_34 ?_
          refine v_aload_n C 0 rfl rfl dX4_mergeLaterOnesInto_35 ?_
          refine v_callVv C (st := []) [.ref (ad 6 b)] (c_X3_absorb l T (ad 6 a) (ad 6 b) (ad 7 a) (cn (MI a q b) (100 + a)) (hAT.k6 b hlt) (hAT.k6 a ha) (hAT.k7 a ha) (hAT.r26 a ha) (hAT.n7 a ha) (hVT.t27 a hap) (by have := n2 a hap; omega)) ml_RX4_262 mi_yX3_absorb (hAP.k6 a hap) (by decide) (by decide +kernel) rfl (Nat.le_of_ble_eq_true rfl) (Nat.le_of_ble_eq_true rfl) (Nat.le_of_ble_eq_true rfl) (Nat.le_of_ble_eq_true rfl) (Nat.le_of_ble_eq_true rfl) dX4_mergeLaterOnesInto_36 (fun u h => ?_) _ rfl
          subst h
          have hA2 : XA (noteS (sI T 22 (ad 6 a) (hI T 22 (ad 6 a) + hI T 22 (ad 6 b))) (ad 6 a) (ad 7 a) (cn (MI a q b) (100 + a)) 103) ad (cn q 1) := (FrT.tr (FrT.I (by decide)) FrT.nt).toA hAT
          have hV2 := XV.abs hAP hVT hap hltp
          have e2 : cn (absA (MI a q b) a b) 1 = cn q 1 := by have := (QT.abs (q := MI a q b) (a := a) (b := b)).low.1 1 (by decide); omega
          refine v_aload_n C 0 rfl rfl dX4_mergeLaterOnesInto_39 ?_
          refine v_aload_n C 2 rfl rfl dX4_mergeLaterOnesInto_40 ?_
          refine v_callVv C (st := []) [.ref (ad 6 a)] (c_X3_mergeInto l (noteS (sI T 22 (ad 6 a) (hI T 22 (ad 6 a) + hI T 22 (ad 6 b))) (ad 6 a) (ad 7 a) (cn (MI a q b) (100 + a)) 103) (ad 6 b) (ad 6 a) (ad 7 b) (cn (absA (MI a q b) a b) (100 + b)) (fun z => absurd (hA2.j6 a ha b hlt z) (by omega)) (hA2.k6 a ha) (hA2.k6 b hlt) (hA2.k7 b hlt) (hA2.r26 b hlt) (hA2.n7 b hlt) (hV2.t27 b (by omega)) (by rw [(QT.abs.row (show b ≠ a by omega)).2.2]; have := n2 b hltp; omega)) ml_RX4_265 mi_yX3_mergeInto (hA2.k6 b hlt) (by decide) (by decide +kernel) rfl (Nat.le_of_ble_eq_true rfl) (Nat.le_of_ble_eq_true rfl) (Nat.le_of_ble_eq_true rfl) (Nat.le_of_ble_eq_true rfl) (Nat.le_of_ble_eq_true rfl) dX4_mergeLaterOnesInto_41 (fun u h => ?_) _ rfl
          subst h
          refine v_iinc C (nI (b + 1)) 3 [(2, .int (nI (b + 1))), (3, .ref (ad 6 b)), (0, .ref (ad 0 0)), (1, .ref (ad 6 a))] rfl (by rw [← nI_1]; rfl) (by decide) rfl dX4_mergeLaterOnesInto_44 ?_
          refine v_goto C 7 (by decide) dX4_mergeLaterOnesInto_47 ?_
          have ef := MI_y ⟨hab, decide_eq_true hc, bI_n0 c31⟩
          exact V.sub [2, 3, 0] rfl (ih (b + 1) (noteS (sI (sI (noteS (sI T 22 (ad 6 a) (hI T 22 (ad 6 a) + hI T 22 (ad 6 b))) (ad 6 a) (ad 7 a) (cn (MI a q b) (100 + a)) 103) 24 (ad 6 b) 0) 25 (ad 6 b) (hI (noteS (sI T 22 (ad 6 a) (hI T 22 (ad 6 a) + hI T 22 (ad 6 b))) (ad 6 a) (ad 7 a) (cn (MI a q b) (100 + a)) 103) 16 (ad 6 a))) (ad 6 b) (ad 7 b) (cn (absA (MI a q b) a b) (100 + b)) 109) (by omega) hlt (by omega) ⟨(FrT.tr (FrT.tr (FrT.I (by decide)) (FrT.I (by decide))) FrT.nt).toA hA2, by rw [ef]; exact XV.into (by rw [e2]; exact hA2) hV2 (by omega) (by omega)⟩)
      · have hv9 : hI T 24 (ad 6 b) = 0 := by rw [hVT.t24 b hltp]; exact bI0 hc
        refine v_aload_n C 0 rfl rfl dX4_mergeLaterOnesInto_15 ?_
        refine v_iload_n C 2 rfl rfl dX4_mergeLaterOnesInto_16 ?_
        refine v_callVq C (st := []) [.int (nI b)] (c_X4_liveTrackAt_d l T ad (cn q 1) b hAT hlt hv9) ml_RX4_187 mi_yX4_liveTrackAt hAT.k0 (by decide) (by decide +kernel) rfl (Nat.le_of_ble_eq_true rfl) (Nat.le_of_ble_eq_true rfl) (Nat.le_of_ble_eq_true rfl) (Nat.le_of_ble_eq_true rfl) (Nat.le_of_ble_eq_true rfl) dX4_mergeLaterOnesInto_17 (fun r u h => ?_) _ rfl
        obtain ⟨rfl, rfl⟩ := h
        refine v_astore_nN C [(3, .null), (0, .ref (ad 0 0)), (1, .ref (ad 6 a)), (2, .int (nI b))] (by decide) rfl rfl dX4_mergeLaterOnesInto_20 ?_
        refine v_aload_nN C 0 rfl rfl dX4_mergeLaterOnesInto_21 ?_
        refine v_ifnullN C 44 (by decide) dX4_mergeLaterOnesInto_22 ?_
        refine v_iinc C (nI (b + 1)) 3 [(2, .int (nI (b + 1))), (3, .null), (0, .ref (ad 0 0)), (1, .ref (ad 6 a))] rfl (by rw [← nI_1]; rfl) (by decide) rfl dX4_mergeLaterOnesInto_44 ?_
        refine v_goto C 7 (by decide) dX4_mergeLaterOnesInto_47 ?_
        have ef := MI_n (a := a) (b := b) (q := q) (fun z => hc (of_decide_eq_true z.2.1))
        exact V.sub [2, 3, 0] rfl (ih (b + 1) T (by omega) hlt (by omega) ⟨hAT, by rw [ef]; exact hVT⟩)
theorem MI_low {a : Nat} {q : AS} : ∀ b, b ≤ a + 1 → MI a q b = q
  | 0, _ => rfl
  | b + 1, h => by rw [MI_n (fun z => absurd z.1 (by omega))]; exact MI_low b (by omega)
set_option maxRecDepth 100000 in
set_option maxHeartbeats 4000000 in
theorem c_X4_mergeLaterOnesInto (l : Launch) (S : HS) (ad : AD) (q : AS) (hB : BI q) (B : Nat) (hh : HB q B) (hb3 : B ≤ 301) (a : Nat) (ha : a < cn q 1) (hA : XA S ad (cn q 1)) (hV : XV S ad q) : cM l yX4_mergeLaterOnesInto cX4_mergeLaterOnesInto 4 (Option.none : Option Jvm.ClassFile.FieldType) 8 [.ref (ad 0 0), .ref (ad 6 a)] S (pV fun u => XA u ad (cn q 1) ∧ XV u ad (MI a q (cn q 1))) 0 0 := by
  refine cM_intro (by decide +kernel) cd_X4_mergeLaterOnesInto (Nat.le_of_ble_eq_true rfl) ?_
  intro pP eE sS mM aA bB tT cC G A C hRT hin
  refine V.lvs (lv2 := [(0, .ref (ad 0 0)), (1, .ref (ad 6 a))]) rfl ?_
  refine v_aload_n C 1 rfl rfl dX4_mergeLaterOnesInto_0 ?_
  refine v_getI C (nI a) fl_RX4_161 (hA.k6 a ha) (hV.t16 a ha) dX4_mergeLaterOnesInto_1 ?_
  refine v_iconst C 1 (by decide) dX4_mergeLaterOnesInto_4 ?_
  refine v_iadd C dX4_mergeLaterOnesInto_5 ?_
  refine v_istore_n C [(2, .int ((nI a) + 1)), (0, .ref (ad 0 0)), (1, .ref (ad 6 a))] (by decide) rfl rfl dX4_mergeLaterOnesInto_6 ?_
  rw [nI_1]
  refine V.sub [1, 2, 0] rfl (lp_X4_mergeLater S ad q hB B hh hb3 a ha C (fun T hT => ?_) (cn q 1 + 1) (a + 1) S (by omega) (by omega) (by omega) ⟨hA, by rw [MI_low _ (Nat.le_refl _)]; exact hV⟩)
  exact v_vret C hRT (Nat.le_of_ble_eq_true rfl) (Nat.le_of_ble_eq_true rfl) dX4_mergeLaterOnesInto_50 ⟨rfl, hT⟩
set_option maxRecDepth 100000 in
set_option maxHeartbeats 4000000 in
theorem lp_X4_mergeTracks {l : Launch} {pP : Program} {eE : Env} {sS : State} {mM : MethodId} {aA : Array Value} {bB : List Frame} {tT : Method} {cC : Code} {G : GT} {A : Nat → Prop} {Q : State → Prop}  (S : HS) (ad : AD) (q : AS) (B : Nat) (hB : BI (BG q (cn q 0))) (hh : HB (BG q (cn q 0)) B) (hb3 : B ≤ 301)  (C : Cx pP l eE (rmD 10 0 0) sS mM aA bB tT cC cX4_mergeTracks 3 RX4 G A) (kk : ∀ T : HS, XA T ad (cn (BG q (cn q 0)) 1) ∧ XV T ad (MA q (cn (BG q (cn q 0)) 1)) → V pP l eE (rmD 10 0 0) sS mM aA bB tT cC 3 G A T 0 0 Q 31 [(0, .ref (ad 0 0)), (1, .int (nI (cn (BG q (cn q 0)) 1)))] []) : ∀ (N : Nat) (a : Nat) (T : HS), (hN9 : cn (BG q (cn q 0)) 1 + 1 ≤ a + N) → (hi : a ≤ cn (BG q (cn q 0)) 1) → (hinv : XA T ad (cn (BG q (cn q 0)) 1) ∧ XV T ad (MA q a)) → V pP l eE (rmD 10 0 0) sS mM aA bB tT cC 3 G A T 0 0 Q 2 [(0, .ref (ad 0 0)), (1, .int (nI a))] [] := by
  intro N
  induction N with
  | zero =>
    intro a T hN9 hi hinv
    exact absurd hN9 (by omega)
  | succ N ih =>
    intro a T hN9 hi hinv
    obtain ⟨hAT, hVT⟩ := hinv
    obtain ⟨n1, n2, n3⟩ := MA_I hB hh hb3 a hi
    have e1 := n3.1 1 (by decide)
    have h60 := hB.b1
    have hAP : XA T ad (cn (MA q a) 1) := by rw [e1]; exact hAT
    have hv32 : hI T 32 (ad 0 0) = nI (cn (BG q (cn q 0)) 1) := by rw [hVT.v32, e1]
    refine v_iload_n C 1 rfl rfl dX4_mergeTracks_2 ?_
    refine v_aload_n C 0 rfl rfl dX4_mergeTracks_3 ?_
    refine v_getI C (nI (cn (BG q (cn q 0)) 1)) fl_RX4_184 hAT.k0 hv32 dX4_mergeTracks_4 ?_
    refine v_icmp_ge C 31 (by decide) dX4_mergeTracks_7 (fun c7 => ?_) (fun c7 => ?_)
    · obtain rfl : a = cn (BG q (cn q 0)) 1 := by have := nge c7 (by omega); omega
      exact V.sub [0, 1] rfl (kk T ⟨hAT, hVT⟩)
    · have hlt : a < cn (BG q (cn q 0)) 1 := nlt c7 (by omega)
      have hltp : a < cn (MA q a) 1 := by omega
      by_cases hc : zz (MA q a) 3 a 7 = 0
      · have hv9 : hI T 24 (ad 6 a) = 1 := by rw [hVT.t24 a hltp]; exact bI1 hc
        refine v_aload_n C 0 rfl rfl dX4_mergeTracks_10 ?_
        refine v_iload_n C 1 rfl rfl dX4_mergeTracks_11 ?_
        refine v_callVq C (st := []) [.int (nI a)] (c_X4_liveTrackAt_y l T ad (cn (BG q (cn q 0)) 1) a hAT hlt hv9) ml_RX4_187 mi_yX4_liveTrackAt hAT.k0 (by decide) (by decide +kernel) rfl (Nat.le_of_ble_eq_true rfl) (Nat.le_of_ble_eq_true rfl) (Nat.le_of_ble_eq_true rfl) (Nat.le_of_ble_eq_true rfl) (Nat.le_of_ble_eq_true rfl) dX4_mergeTracks_12 (fun r u h => ?_) _ rfl
        obtain ⟨rfl, rfl⟩ := h
        refine v_astore_n C [(2, .ref (ad 6 a)), (0, .ref (ad 0 0)), (1, .int (nI a))] (by decide) rfl rfl dX4_mergeTracks_15 ?_
        refine v_aload_n C 0 rfl rfl dX4_mergeTracks_16 ?_
        refine v_ifnull C dX4_mergeTracks_17 ?_
        refine v_aload_n C 1 rfl rfl dX4_mergeTracks_20 ?_
        refine v_aload_n C 0 rfl rfl dX4_mergeTracks_21 ?_
        refine v_callVv C (st := []) [.ref (ad 6 a)] (c_X4_mergeLaterOnesInto l T ad (MA q a) n1 B n2 hb3 a hltp hAP hVT) ml_RX4_255 mi_yX4_mergeLaterOnesInto hAT.k0 (by decide) (by decide +kernel) rfl (Nat.le_of_ble_eq_true rfl) (Nat.le_of_ble_eq_true rfl) (Nat.le_of_ble_eq_true rfl) (Nat.le_of_ble_eq_true rfl) (Nat.le_of_ble_eq_true rfl) dX4_mergeTracks_22 (fun u h => ?_) _ rfl
        obtain ⟨hA3, hV3⟩ := h
        refine v_iinc C (nI (a + 1)) 2 [(1, .int (nI (a + 1))), (2, .ref (ad 6 a)), (0, .ref (ad 0 0))] rfl (by rw [← nI_1]; rfl) (by decide) rfl dX4_mergeTracks_25 ?_
        refine v_goto C 2 (by decide) dX4_mergeTracks_28 ?_
        have ef := MA_y (decide_eq_true hc)
        exact V.sub [2, 0] rfl (ih (a + 1) u (by omega) hlt ⟨by rw [← e1]; exact hA3, by rw [ef]; exact hV3⟩)
      · have hv9 : hI T 24 (ad 6 a) = 0 := by rw [hVT.t24 a hltp]; exact bI0 hc
        refine v_aload_n C 0 rfl rfl dX4_mergeTracks_10 ?_
        refine v_iload_n C 1 rfl rfl dX4_mergeTracks_11 ?_
        refine v_callVq C (st := []) [.int (nI a)] (c_X4_liveTrackAt_d l T ad (cn (BG q (cn q 0)) 1) a hAT hlt hv9) ml_RX4_187 mi_yX4_liveTrackAt hAT.k0 (by decide) (by decide +kernel) rfl (Nat.le_of_ble_eq_true rfl) (Nat.le_of_ble_eq_true rfl) (Nat.le_of_ble_eq_true rfl) (Nat.le_of_ble_eq_true rfl) (Nat.le_of_ble_eq_true rfl) dX4_mergeTracks_12 (fun r u h => ?_) _ rfl
        obtain ⟨rfl, rfl⟩ := h
        refine v_astore_nN C [(2, .null), (0, .ref (ad 0 0)), (1, .int (nI a))] (by decide) rfl rfl dX4_mergeTracks_15 ?_
        refine v_aload_nN C 0 rfl rfl dX4_mergeTracks_16 ?_
        refine v_ifnullN C 25 (by decide) dX4_mergeTracks_17 ?_
        refine v_iinc C (nI (a + 1)) 2 [(1, .int (nI (a + 1))), (2, .null), (0, .ref (ad 0 0))] rfl (by rw [← nI_1]; rfl) (by decide) rfl dX4_mergeTracks_25 ?_
        refine v_goto C 2 (by decide) dX4_mergeTracks_28 ?_
        have ef := MA_n (fun z => hc (of_decide_eq_true z))
        exact V.sub [2, 0] rfl (ih (a + 1) T (by omega) hlt ⟨hAT, by rw [ef]; exact hVT⟩)
set_option maxRecDepth 100000 in
set_option maxHeartbeats 4000000 in
theorem c_X4_mergeTracks (l : Launch) (S : HS) (ad : AD) (q : AS) (B : Nat) (hB : BI (BG q (cn q 0))) (hh : HB (BG q (cn q 0)) B) (hb3 : B ≤ 301) (hA : XA S ad (cn (BG q (cn q 0)) 1)) (hV : XV S ad (BG q (cn q 0))) : cM l yX4_mergeTracks cX4_mergeTracks 3 (Option.none : Option Jvm.ClassFile.FieldType) 10 [.ref (ad 0 0)] S (pV fun u => XA u ad (cn (BG q (cn q 0)) 1) ∧ XV u ad (MA q (cn (BG q (cn q 0)) 1))) 0 0 := by
  refine cM_intro (by decide +kernel) cd_X4_mergeTracks (Nat.le_of_ble_eq_true rfl) ?_
  intro pP eE sS mM aA bB tT cC G A C hRT hin
  refine V.lvs (lv2 := [(0, .ref (ad 0 0))]) rfl ?_
  refine v_iconst C 0 (by decide) dX4_mergeTracks_0 ?_
  refine v_istore_n C [(1, .int 0), (0, .ref (ad 0 0))] (by decide) rfl rfl dX4_mergeTracks_1 ?_
  refine V.sub [1, 0] rfl (lp_X4_mergeTracks S ad q B hB hh hb3 C (fun T hT => ?_) (cn (BG q (cn q 0)) 1 + 1) 0 S (by omega) (by omega) ⟨hA, hV⟩)
  exact v_vret C hRT (Nat.le_of_ble_eq_true rfl) (Nat.le_of_ble_eq_true rfl) dX4_mergeTracks_31 ⟨rfl, hT⟩
