theorem nI_ltn {a b : Nat} (h : a < b) (hb : b < 2 ^ 31) : nI a < nI b := Int32.not_le.mp (fun z => absurd (nge z hb) (by omega))
theorem stop {S : HS} {ad : AD} {nr r : Nat} {b : Option OC} {c0 : Int} {tr : Nat → Int} {o : OC} (hbx : BX S ad nr b) (hc9 : bd c0 0 1000000000) (c6 : ¬ lg_cmp (lO c0) (hJ S 12 (ad 8 0)) < 0) (h0 : 0 ≤ o.1) : BX S ad nr (upB b c0 r tr o) := by
  obtain ⟨a, rfl, ha⟩ := hbx.le hc9 c6
  show BX S ad nr (if c0 + o.1 < a.1 then _ else some a)
  rw [if_neg (by omega)]
  exact hbx
theorem lastb {u : HS} {ad : AD} {nr k lc : Nat} {cm : Nat → Nat → Int} {g c0 : Int} {us : Nat → Bool} {tr : Nat → Int} {b : Option OC} (hk : k + 1 ≤ nr) (h : BX u ad nr (upB (upF b c0 (nr - (k + 1)) tr (optF cm (nr - (k + 1)) us (fun i => opt cm g lc nr k (bup us i)) lc)) (c0 + g) (nr - k) (fup tr (nr - (k + 1)) (-1)) (opt cm g lc nr k us))) : BX u ad nr (upB b c0 (nr - (k + 1)) tr (opt cm g lc nr (k + 1) us)) := by
  have e9 : nr - k = nr - (k + 1) + 1 := by omega
  rw [e9, upB_none (fun j hj => fup_if hj)] at h
  exact h
set_option maxRecDepth 100000 in
set_option maxHeartbeats 4000000 in
theorem c_X4_extendS (l : Launch) (S : HS) (ad : AD) (n nr lc : Nat) (cm : Nat → Nat → Int) (g : Int) (k : Nat) (hk1 : k + 1 ≤ nr) (IH : ExtOK l ad n nr lc cm g k) (us : Nat → Bool) (m0 : Nat) (c0 : Int) (tr : Nat → Int) (b : Option OC) (hCM : CMok nr lc cm g) (hA : XA S ad n) (hX : XN S ad nr lc cm g) (hm6 : m0 < 64) (hus : ∀ i, i < lc → m0.testBit i = us i) (hc0 : bd c0 0 (64000000 * (nr - (k + 1) : Nat))) (hbx : BX S ad nr b) (htr : ∀ j, j < nr - (k + 1) → aI S (ad 12 0) j = iO (tr j)) : cM l yX4_extend cX4_extend 8 (Option.none : Option Jvm.ClassFile.FieldType) (8 + (k + 1)) [.ref (ad 8 0), .int (nI (nr - (k + 1))), .int (nI m0), .long (lO c0)] S (pV fun u => FrE S u ad ∧ (∀ j, j < nr - (k + 1) → aI u (ad 12 0) j = aI S (ad 12 0) j) ∧ BX u ad nr (upB b c0 (nr - (k + 1)) tr (opt cm g lc nr (k + 1) us))) 0 0 := by
  refine cM_intro (by decide +kernel) cd_X4_extend (Nat.le_of_ble_eq_true rfl) ?_
  intro pP eE sS mM aA bB tT cC G A C hRT hin
  refine V.lvs (lv2 := [(0, .ref (ad 8 0)), (1, .int (nI (nr - (k + 1)))), (2, .int (nI m0)), (3, .long (lO c0))]) rfl ?_
  have hc9 : bd c0 0 1000000000 := by have := hCM.1; unfold bd at *; omega
  have hn4 := hCM.1
  refine v_lload_n C 3 rfl rfl dX4_extend_0 ?_
  refine v_aload_n C 0 rfl rfl dX4_extend_1 ?_
  refine v_getJ C (hJ S 12 (ad 8 0)) fl_RX4_147 hA.k8 rfl dX4_extend_2 ?_
  refine v_lcmp C dX4_extend_5 ?_
  refine v_if_lt C 10 (by decide) dX4_extend_6 (fun c6 => ?_) (fun c6 => ?_)
  · refine v_iload_n C 1 rfl rfl dX4_extend_10 ?_
    refine v_if_lt C 27 (by decide) dX4_extend_11 (fun q => (nI_pos (by have := hCM.1; omega) q).elim) (fun c11 => ?_)
    refine v_iload_n C 1 rfl rfl dX4_extend_14 ?_
    refine v_aload_n C 0 rfl rfl dX4_extend_15 ?_
    refine v_getI C (nI nr) fl_RX4_211 hA.k8 hX.1 dX4_extend_16 ?_
    refine v_icmp_ge C 27 (by decide) dX4_extend_19 (fun q => (nI_ge (by omega) (by have := hCM.1; omega) q).elim) (fun c19 => ?_)
    refine v_iload_n C 1 rfl rfl dX4_extend_22 ?_
    refine v_iconst C 4 (by decide) dX4_extend_23 ?_
    refine v_icmp_lt C 33 (by decide) dX4_extend_24 (fun c24 => ?_) (fun q => (q (nI_ltn (b := 4) (by omega) (by omega))).elim)
    refine v_iconst C 0 (by decide) dX4_extend_33 ?_
    refine v_istore C [(5, .int 0), (0, .ref (ad 8 0)), (1, .int (nI (nr - (k + 1)))), (2, .int (nI m0)), (3, .long (lO c0))] (by decide) rfl dX4_extend_34 ?_
    refine V.sub [1, 2, 3, 4, 0] rfl (lp_X4_extend S ad n nr lc cm g k hk1 IH us m0 c0 tr b hCM hA hX hm6 hus hc0 hbx htr C (fun T hT => ?_) (lc + 1) 0 S (by omega) (by omega) ⟨FrE.rf, fun _ _ => rfl, hbx⟩)
    obtain ⟨hE, hch, hbT⟩ := hT
    have hAT := hE.toX.toA hA
    have hXT := XN.E hE hX
    have hn4 := hCM.1
    have hl6 := hCM.2.1
    refine v_aload_n C 0 rfl rfl dX4_extend_112 ?_
    refine v_getR C (ad 12 0) fl_RX4_219 hAT.k8 hAT.r10 dX4_extend_113 ?_
    refine v_iload_n C 1 rfl rfl dX4_extend_116 ?_
    refine v_iconst C (-1) (by decide) dX4_extend_117 ?_
    refine v_iastj C (nr - (k + 1)) (nI_clamp (by omega)) hAT.k12 (by rw [hAT.n12]; exact vp_in_nI (by omega) (by decide)) dX4_extend_118 ?_
    refine v_aload_n C 0 rfl rfl dX4_extend_119 ?_
    refine v_iload_n C 1 rfl rfl dX4_extend_120 ?_
    refine v_iconst C 1 (by decide) dX4_extend_121 ?_
    refine v_iadd C dX4_extend_122 ?_
    refine v_iload_n C 2 rfl rfl dX4_extend_123 ?_
    refine v_lload_n C 3 rfl rfl dX4_extend_124 ?_
    refine v_aload_n C 0 rfl rfl dX4_extend_125 ?_
    refine v_getJ C (lO g) fl_RX4_223 hAT.k8 hXT.2.2.1 dX4_extend_126 ?_
    refine v_ladd C dX4_extend_129 ?_
    rw [nr_1 hk1, lO_add]
    refine v_callSv C (st := []) [.ref (ad 8 0), .int (nI (nr - k)), .int (nI m0), .long (lO (c0 + g))] (IH (tI T (ad 12 0) (nr - (k + 1)) (-1)) us m0 (c0 + g) (fup tr (nr - (k + 1)) (-1)) (upF b c0 (nr - (k + 1)) tr (optF cm (nr - (k + 1)) us (fun i => opt cm g lc nr k (bup us i)) lc)) ((hE.tr FrE.aI12).toX.toA hA) (XN.E (hE.tr FrE.aI12) hX) hm6 hus (gbound hk1 hc0 hCM.2.2.1) (hbT.of rfl (aI_tI2 (fun z => hA.j12 z.symm))) (trstep hk1 rfl hch htr)) ml_RX4_176 ms_yX4_extend rfl (Nat.le_of_ble_eq_true rfl) (by show 8 + k + 1 ≤ 8 + (k + 1); omega) (by show 8 + (8 + 11) + 40 * (8 + k) ≤ 40 * (8 + (k + 1)); omega) (Nat.le_of_ble_eq_true rfl) (Nat.le_of_ble_eq_true rfl) dX4_extend_130 (fun u h => ?_) _ rfl
    obtain ⟨hE2, hch2, hb2⟩ := h
    exact v_vret C hRT (Nat.le_of_ble_eq_true rfl) (Nat.le_of_ble_eq_true rfl) dX4_extend_133 ⟨rfl, (hE.tr FrE.aI12).tr hE2, fun j hj => by rw [hch2 j (by omega), aI_tI1, if_neg (by omega), hch j hj], lastb hk1 hb2⟩
  · exact v_vret C hRT (Nat.le_of_ble_eq_true rfl) (Nat.le_of_ble_eq_true rfl) dX4_extend_9 ⟨rfl, FrE.rf, fun _ _ => rfl, stop hbx hc9 c6 (opt_nn hCM.2.2.1.1 (k + 1) us)⟩
theorem extOK {l : Launch} {ad : AD} {n nr lc : Nat} {cm : Nat → Nat → Int} {g : Int} (hCM : CMok nr lc cm g) : ∀ k, k ≤ nr → ExtOK l ad n nr lc cm g k
  | 0, _ => fun S us m0 c0 tr b hA hX hm6 hus hc0 hbx htr => c_X4_extend0 l S ad n nr lc cm g us m0 c0 tr b hCM hA hX hm6 hus hc0 hbx htr
  | k + 1, hk => fun S us m0 c0 tr b hA hX hm6 hus hc0 hbx htr => c_X4_extendS l S ad n nr lc cm g k hk (extOK hCM k (by omega)) us m0 c0 tr b hCM hA hX hm6 hus hc0 hbx htr
theorem ctk_ok {q : AS} (hB : BI q) : CMok (cn q 0) (cntP (liveP q) (cn q 1)) (fun r i => ctk q r (lvt (liveP q) (cn q 1) i)) (gsq q) := by
  refine ⟨hB.b0, hB.bv, ?_, fun r hr i hi => ?_⟩
  · have := gsq_bd hB
    unfold bd at *
    omega
  · have hls := lvt_spec hi
    have h1 := gsq_bd hB
    have h2 := dst_bd hB hr hls.1
    show ctk q r _ = -1 ∨ bd (ctk q r _) 0 64000000
    unfold ctk
    split
    · exact Or.inl rfl
    · right
      unfold bd at *
      omega
def noneUsed : Nat → Bool := fun _ => false
/-- the best assignment: its cost and, for each report, a place among the live tracks, or -1 -/
def optA (q : AS) : OC := opt (fun r i => ctk q r (lvt (liveP q) (cn q 1) i)) (gsq q) (cntP (liveP q) (cn q 1)) (cn q 0) (cn q 0) noneUsed
theorem FrX.J12 {S : HS} {ad : AD} {f a : Nat} {v : Int64} : FrX S (sJ S f a v) ad := FrX.J
def XB (S : HS) (ad : AD) (q : AS) : Prop := hJ S 12 (ad 8 0) = lO (optA q).1 ∧ ∀ j, j < cn q 0 → aI S (ad 13 0) j = iO ((optA q).2 j)
theorem bestX {T u : HS} {ad : AD} {q : AS} (hb : BX u ad (cn q 0) (upB none 0 0 (fun _ => 0) (optA q))) : XB u ad q := by
  obtain ⟨h1, h2, h3⟩ := hb
  refine ⟨?_, fun j hj => ?_⟩
  · rw [h1]
    show lO (0 + (optA q).1) = _
    rw [Int.zero_add]
  · rw [h3 j hj]
    show iO (if j < 0 then (fun _ => 0) j else (optA q).2 j) = _
    rw [if_neg (Nat.not_lt_zero j)]
theorem XM.E {S T : HS} {ad : AD} {q : AS} {nr lc : Nat} {lv : Nat → Nat} (f : FrE S T ad) (h : XM S ad q nr lc lv) : XM T ad q nr lc lv := ⟨(f.2.2.2.1 _ _).trans h.1, (f.2.2.2.1 _ _).trans h.2.1, (f.2.2.2.2.2.2.2 _ _ (by decide)).trans h.2.2.1, fun i hi => (congrFun (f.2.2.2.2.1 _) _).trans (h.2.2.2.1 i hi), fun r hr i hi => (congrFun (f.2.2.2.2.2.2.1 _) _).trans (h.2.2.2.2 r hr i hi)⟩
set_option maxRecDepth 100000 in
set_option maxHeartbeats 4000000 in
theorem c_X4_findBestMatching (l : Launch) (S : HS) (ad : AD) (q : AS) (hA : XA S ad (cn q 1)) (hV : XV S ad q) (hB : BI q)  : cM l yX4_findBestMatching cX4_findBestMatching 1 (Option.none : Option Jvm.ClassFile.FieldType) 13 [.ref (ad 0 0)] S (pV fun u => FrX S u ad ∧ XM u ad q (cn q 0) (cntP (liveP q) (cn q 1)) (lvt (liveP q) (cn q 1)) ∧ XB u ad q) 0 0 := by
  refine cM_intro (by decide +kernel) cd_X4_findBestMatching (Nat.le_of_ble_eq_true rfl) ?_
  intro pP eE sS mM aA bB tT cC G A C hRT hin
  refine V.lvs (lv2 := [(0, .ref (ad 0 0))]) rfl ?_
  refine v_aload_n C 0 rfl rfl dX4_findBestMatching_0 ?_
  refine v_callVv C (st := []) [] (c_X4_prepareMatching l S ad q hA hV hB) ml_RX4_151 mi_yX4_prepareMatching hA.k0 (by decide) (by decide +kernel) rfl (Nat.le_of_ble_eq_true rfl) (Nat.le_of_ble_eq_true rfl) (by simp [rmD]) (Nat.le_of_ble_eq_true rfl) (Nat.le_of_ble_eq_true rfl) dX4_findBestMatching_1 (fun u h => ?_) _ rfl
  obtain ⟨hF, hX⟩ := h
  have hAT := hF.toA hA
  have hVT := hF.toV hA hV
  have hn4 := hB.b0
  refine v_aload_n C 0 rfl rfl dX4_findBestMatching_4 ?_
  refine v_getR C (ad 8 0) fl_RX4_30 hAT.k0 hAT.r33 dX4_findBestMatching_5 ?_
  refine v_ldc2 C kl_RX4_174 dX4_findBestMatching_8 ?_
  refine v_putJ C fl_RX4_147 hAT.k8 rfl rfl dX4_findBestMatching_11 ?_
  refine v_aload_n C 0 rfl rfl dX4_findBestMatching_14 ?_
  refine v_getR C (ad 8 0) fl_RX4_30 hAT.k0 hAT.r33 dX4_findBestMatching_15 ?_
  refine v_iconst C 0 (by decide) dX4_findBestMatching_18 ?_
  refine v_iconst C 0 (by decide) dX4_findBestMatching_19 ?_
  refine v_lconst C 0 (by decide) dX4_findBestMatching_20 ?_
  have hX2 : XN (sJ u 12 (ad 8 0) 1152921504606846976) ad (cn q 0) (cntP (liveP q) (cn q 1)) (fun r i => ctk q r (lvt (liveP q) (cn q 1) i)) (gsq q) := ⟨hX.1, hX.2.1, (hJ_sJ3 (by decide)).trans hX.2.2.1, hX.2.2.2.2⟩
  have hb0 : BX (sJ u 12 (ad 8 0) 1152921504606846976) ad (cn q 0) none := hJ_sJ1
  have key := extOK (l := l) (ad := ad) (n := cn q 1) (ctk_ok hB) (cn q 0) (Nat.le_refl _) (sJ u 12 (ad 8 0) 1152921504606846976) noneUsed 0 0 (fun _ => 0) none (FrX.J.toA hAT) hX2 (by decide) (fun _ _ => Nat.zero_testBit _) (by rw [Nat.sub_self]; exact ⟨Int.le_refl 0, Int.le_refl 0⟩) hb0 (fun j hj => by rw [Nat.sub_self] at hj; exact absurd hj (Nat.not_lt_zero j))
  rw [Nat.sub_self] at key
  have h04 : cn q 0 ≤ 4 := hn4
  refine v_callSv C (st := []) [.ref (ad 8 0), .int 0, .int 0, .long 0] key ml_RX4_176 ms_yX4_extend rfl (Nat.le_of_ble_eq_true rfl) (by show 8 + cn q 0 + 1 ≤ 13; omega) (by show 8 + (8 + 11) + 40 * (8 + cn q 0) ≤ 40 * 13; omega) (Nat.le_of_ble_eq_true rfl) (Nat.le_of_ble_eq_true rfl) dX4_findBestMatching_21 (fun u2 h => ?_) _ rfl
  obtain ⟨hE2, hch2, hb2⟩ := h
  exact v_vret C hRT (Nat.le_of_ble_eq_true rfl) (Nat.le_of_ble_eq_true rfl) dX4_findBestMatching_24 ⟨rfl, (hF.tr FrX.J).tr hE2.toX, XM.E hE2 ⟨hX.1, hX.2.1, (hJ_sJ3 (by decide)).trans hX.2.2.1, hX.2.2.2.1, hX.2.2.2.2⟩, bestX (T := u2) hb2⟩
