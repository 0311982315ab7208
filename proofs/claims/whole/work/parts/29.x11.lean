theorem BG_tk {q : AS} {r : Nat} (h : ¬ tkr q r < 0) : BG q (r + 1) = BG q r := if_neg h
theorem BG_bg {q : AS} {r : Nat} (h : tkr q r < 0) : BG q (r + 1) = bgnA (BG q r) r := if_pos h
theorem bgn_drop {q : AS} {r : Nat} (h : 6 ≤ lcn q ∨ 60 ≤ cn q 1) : bgnA q r = cs q 3 (cn q 3 + 1) := if_pos h
theorem bgn_new {q : AS} {r : Nat} (h : ¬ (6 ≤ lcn q ∨ 60 ≤ cn q 1)) : bgnA q r = newA q r := if_neg h
theorem BG_mono {q : AS} : ∀ r, cn (BG q 0) 1 ≤ cn (BG q r) 1
  | 0 => Nat.le_refl _
  | r + 1 => by
    have ih := BG_mono (q := q) r
    by_cases h : tkr q r < 0
    · rw [BG_bg h]
      by_cases h2 : 6 ≤ lcn (BG q r) ∨ 60 ≤ cn (BG q r) 1
      · rw [bgn_drop h2, cn_cs, if_neg (by decide)]; exact ih
      · rw [bgn_new h2, new_cn1]; omega
    · rw [BG_tk h]; exact ih
theorem XV.drop {S : HS} {ad : AD} {q : AS} (hA : XA S ad (cn q 1)) (hV : XV S ad q) : XV (sI S 40 (ad 0 0) (nI (cn q 3) + 1)) ad (cs q 3 (cn q 3 + 1)) := by
  have r1 : ∀ f, f ≠ 40 → ∀ a, hI (sI S 40 (ad 0 0) (nI (cn q 3) + 1)) f a = hI S f a := fun f hf a => hI_sI2 (fun z => hf z.1)
  have c : ∀ k, k ≠ 3 → cn (cs q 3 (cn q 3 + 1)) k = cn q k := fun k hk => by rw [cn_cs, if_neg hk]
  refine ⟨by rw [r1 _ (by decide), c 0 (by decide)]; exact hV.v30, by rw [r1 _ (by decide), c 1 (by decide)]; exact hV.v32, by rw [r1 _ (by decide), c 2 (by decide)]; exact hV.v39, by rw [cn_cs, if_pos rfl]; exact hI_sI1.trans (nI_1 _), by rw [r1 _ (by decide)]; exact hV.v34, by rw [r1 _ (by decide)]; exact hV.v35, by rw [r1 _ (by decide)]; exact hV.v36, by rw [r1 _ (by decide)]; exact hV.v37, by rw [r1 _ (by decide)]; exact hV.v38,
    fun i hi => by rw [r1 _ (by omega), c _ (by omega)]; exact hV.c0 i hi, fun i hi k hk => by rw [r1 _ (by omega)]; exact hV.c1 i hi k hk, fun i hi k hk => by rw [r1 _ (by omega)]; exact hV.p i hi k hk, fun i hi => ?_, fun i hi k hk => ?_, fun i hi => ?_, fun i hi => ?_, fun i hi => ?_, fun i hi j hj => ?_⟩
  all_goals rw [c 1 (by decide)] at hi
  · rw [r1 _ (by omega)]; exact hV.t16 i hi
  · rw [r1 _ (by omega)]; exact hV.tv i hi k hk
  · rw [r1 _ (by omega)]; exact hV.t24 i hi
  · rw [r1 _ (by omega)]; exact hV.t25 i hi
  · rw [r1 _ (by omega), c _ (by omega)]; exact hV.t27 i hi
  · rw [c _ (by omega)] at hj; exact hV.sg i hi j hj
theorem nlt_of {a : Nat} (h : nI a < 60) (ha : a < 2 ^ 31) : a < 60 := by
  rcases Nat.lt_or_ge a 60 with z | z
  · exact z
  · exact absurd h (nI_nlt (b := 60) z ha)
theorem nlt_no {a : Nat} (h : ¬ nI a < 60) (ha : a < 2 ^ 31) : 60 ≤ a := by
  rcases Nat.lt_or_ge a 60 with z | z
  · exact absurd (nI_ltn (b := 60) z (by decide)) h
  · exact z
theorem XW.I40 {S : HS} {ad : AD} {q : AS} {a : Nat} {v : Int32} (h : XW S ad q) : XW (sI S 40 a v) ad q := ⟨(hI_sI2 (fun z => absurd z.1 (by decide))).trans h.1, (hI_sI2 (fun z => absurd z.1 (by decide))).trans h.2.1, h.2.2.1, h.2.2.2⟩
set_option maxRecDepth 100000 in
set_option maxHeartbeats 4000000 in
theorem c_X4_beginOrDrop (l : Launch) (S : HS) (ad : AD) (q Q : AS) (p : Nat) (hB : BI Q) (hp : p < cn Q 0) (hln : ∀ i, i < lcn q → lti q i < cn Q 1) (hA : XA S ad (cn Q 1)) (hV : XV S ad Q) (hW : XW S ad q) : cM l yX4_beginOrDrop cX4_beginOrDrop 2 (Option.none : Option Jvm.ClassFile.FieldType) 5 [.ref (ad 0 0), .ref (ad 4 p)] S (pV fun u => ∃ ad2 : AD, ad2 0 0 = ad 0 0 ∧ XA u ad2 (cn (bgnA Q p) 1) ∧ XV u ad2 (bgnA Q p) ∧ XW u ad2 q) 2 524 := by
  refine cM_intro (by decide +kernel) cd_X4_beginOrDrop (Nat.le_of_ble_eq_true rfl) ?_
  intro pP eE sS mM aA bB tT cC G A C hRT hin
  refine V.lvs (lv2 := [(0, .ref (ad 0 0)), (1, .ref (ad 4 p))]) rfl ?_
  have h04 := hB.b0
  have h60 := hB.b1
  have hlv6 : lcn Q ≤ 6 := hB.bv
  refine v_aload_n C 0 rfl rfl dX4_beginOrDrop_0 ?_
  refine v_callVi C (st := []) [] (c_X4_countLive l S ad Q hA hV) ml_RX4_247 mi_yX4_countLive hA.k0 (by decide) (by decide +kernel) rfl (Nat.le_of_ble_eq_true rfl) (Nat.le_of_ble_eq_true rfl) (Nat.le_of_ble_eq_true rfl) (Nat.le_of_ble_eq_true rfl) (Nat.le_of_ble_eq_true rfl) dX4_beginOrDrop_1 (fun r u h => ?_) _ rfl
  obtain ⟨rfl, rfl⟩ := h
  refine v_bipush C 6 (by decide) dX4_beginOrDrop_4 ?_
  refine v_icmp_ge C 28 (by decide) dX4_beginOrDrop_6 (fun c6 => ?_) (fun c6 => ?_)
  · refine v_aload_n C 0 rfl rfl dX4_beginOrDrop_28 ?_
    refine v_dup C rfl dX4_beginOrDrop_29 ?_
    refine v_getI C (nI (cn Q 3)) fl_RX4_250 hA.k0 hV.v40 dX4_beginOrDrop_30 ?_
    refine v_iconst C 1 (by decide) dX4_beginOrDrop_33 ?_
    refine v_iadd C dX4_beginOrDrop_34 ?_
    refine v_putI C fl_RX4_250 hA.k0 rfl rfl dX4_beginOrDrop_35 ?_
    refine v_goto C 72 (by decide) dX4_beginOrDrop_38 ?_
    have hdd : 6 ≤ lcn Q ∨ 60 ≤ cn Q 1 := Or.inl (nge c6 (by omega))
    exact v_vret C hRT (Nat.le_of_ble_eq_true rfl) (Nat.le_of_ble_eq_true rfl) dX4_beginOrDrop_72 ⟨rfl, ad, rfl, by rw [bgn_drop hdd]; exact hA.of rfl rfl rfl rfl, by rw [bgn_drop hdd]; exact XV.drop hA hV, hW.I40⟩
  · refine v_aload_n C 0 rfl rfl dX4_beginOrDrop_9 ?_
    refine v_getI C (nI (cn Q 1)) fl_RX4_184 hA.k0 hV.v32 dX4_beginOrDrop_10 ?_
    refine v_if_lt C 28 (by decide) dX4_beginOrDrop_13 (fun q => (nI_pos (by omega) q).elim) (fun c13 => ?_)
    refine v_aload_n C 0 rfl rfl dX4_beginOrDrop_16 ?_
    refine v_getI C (nI (cn Q 1)) fl_RX4_184 hA.k0 hV.v32 dX4_beginOrDrop_17 ?_
    refine v_aload_n C 0 rfl rfl dX4_beginOrDrop_20 ?_
    refine v_getR C (ad 5 0) fl_RX4_23 hA.k0 hA.r31 dX4_beginOrDrop_21 ?_
    refine v_alen C 60 (kle hA.k5 (by decide)) (kge hA.k5 (by decide)) (by rw [hA.n5]; rfl) dX4_beginOrDrop_24 ?_
    refine v_icmp_lt C 41 (by decide) dX4_beginOrDrop_25 (fun c25 => ?_) (fun c25 => ?_)
    · refine v_aload_n C 0 rfl rfl dX4_beginOrDrop_41 ?_
      refine v_getR C (ad 5 0) fl_RX4_23 hA.k0 hA.r31 dX4_beginOrDrop_42 ?_
      refine v_aload_n C 0 rfl rfl dX4_beginOrDrop_45 ?_
      refine v_getI C (nI (cn Q 1)) fl_RX4_184 hA.k0 hV.v32 dX4_beginOrDrop_46 ?_
      have hn60 : cn Q 1 < 60 := nlt_of c25 (by omega)
      have hlc6 : lcn Q < 6 := nlt c6 (by omega)
      refine v_new C nl_RX4_21 (Nat.le_of_ble_eq_true rfl) (Nat.le_of_ble_eq_true rfl) dX4_beginOrDrop_49 (fun q0 hq0 => ?_)
      have hA2 := hA.old (Old.newO (kd := 4) hq0)
      have hV2 := hV.old hA (Old.newO (kd := 4) hq0)
      refine v_dup C rfl dX4_beginOrDrop_52 ?_
      refine v_aload_n C 0 rfl rfl dX4_beginOrDrop_53 ?_
      refine v_getI C (nI (cn Q 1)) fl_RX4_184 hA2.k0 hV2.v32 dX4_beginOrDrop_54 ?_
      refine v_aload_n C 1 rfl rfl dX4_beginOrDrop_57 ?_
      refine v_callI C (st := [.ref q0, .int (nI (cn Q 1)), .ref (ad 5 0)]) [.int (nI (cn Q 1)), .ref (ad 4 p)] (c_X3_init l (nO S q0 4) q0 (ad 4 p) (nI (cn Q 1)) hK_nO1 (hA2.k4 p (by omega))) ml_RX4_253 mii_yX3_init rfl rfl (Nat.le_of_ble_eq_true rfl) (Nat.le_of_ble_eq_true rfl) (Nat.le_of_ble_eq_true rfl) (Nat.le_of_ble_eq_true rfl) (Nat.le_of_ble_eq_true rfl) dX4_beginOrDrop_58 (fun u h => ?_) _ rfl
      obtain ⟨b0, hb0, rfl⟩ := h
      obtain ⟨hnq, hbT, u4, u11, u26, uN, -⟩ := trk_f (h1 := ad 4 p) (nr := nI (cn Q 1)) hq0 hb0 (ne_fresh (hA.k4 p (by omega)) (by decide) hq0)
      have hA3 := hA.old (Old.trk (h1 := ad 4 p) (nr := nI (cn Q 1)) hq0 hbT)
      have hV3 := hV.old hA (Old.trk (h1 := ad 4 p) (nr := nI (cn Q 1)) hq0 hbT)
      refine v_aastj C (cn Q 1) (nI_clamp (by omega)) hA3.k5 u4 (by decide) (by rw [hA3.n5]; exact vp_in_nI hn60 (by decide)) dX4_beginOrDrop_61 ?_
      refine v_aload_n C 0 rfl rfl dX4_beginOrDrop_62 ?_
      refine v_dup C rfl dX4_beginOrDrop_63 ?_
      refine v_getI C (nI (cn Q 1)) fl_RX4_184 hA3.k0 hV3.v32 dX4_beginOrDrop_64 ?_
      refine v_iconst C 1 (by decide) dX4_beginOrDrop_67 ?_
      refine v_iadd C dX4_beginOrDrop_68 ?_
      refine v_putI C fl_RX4_184 hA3.k0 rfl rfl dX4_beginOrDrop_69 ?_
      have hnn : ¬ (6 ≤ lcn Q ∨ 60 ≤ cn Q 1) := by omega
      have hadd := XR.add (r := p) hA hV (by omega) (by omega) hq0 hb0 (by omega)
      exact v_vret C hRT (Nat.le_of_ble_eq_true rfl) (Nat.le_of_ble_eq_true rfl) dX4_beginOrDrop_72 ⟨rfl, adU ad (cn Q 1) q0 b0, rfl, by rw [bgn_new hnn]; exact hadd.1, by rw [bgn_new hnn]; exact hadd.2, hW.add hA hq0 hbT hln⟩
    · refine v_aload_n C 0 rfl rfl dX4_beginOrDrop_28 ?_
      refine v_dup C rfl dX4_beginOrDrop_29 ?_
      refine v_getI C (nI (cn Q 3)) fl_RX4_250 hA.k0 hV.v40 dX4_beginOrDrop_30 ?_
      refine v_iconst C 1 (by decide) dX4_beginOrDrop_33 ?_
      refine v_iadd C dX4_beginOrDrop_34 ?_
      refine v_putI C fl_RX4_250 hA.k0 rfl rfl dX4_beginOrDrop_35 ?_
      refine v_goto C 72 (by decide) dX4_beginOrDrop_38 ?_
      have hdd : 6 ≤ lcn Q ∨ 60 ≤ cn Q 1 := Or.inr (nlt_no c25 (by omega))
      exact v_vret C hRT (Nat.le_of_ble_eq_true rfl) (Nat.le_of_ble_eq_true rfl) dX4_beginOrDrop_72 ⟨rfl, ad, rfl, by rw [bgn_drop hdd]; exact hA.of rfl rfl rfl rfl, by rw [bgn_drop hdd]; exact XV.drop hA hV, hW.I40⟩
set_option maxRecDepth 100000 in
set_option maxHeartbeats 4000000 in
theorem lp_X4_beginTracks {l : Launch} {pP : Program} {eE : Env} {sS : State} {mM : MethodId} {aA : Array Value} {bB : List Frame} {tT : Method} {cC : Code} {G : GT} {A : Nat → Prop} {Q : State → Prop}  (S : HS) (x0 : Nat) (q : AS) (hB : BI q) (B : Nat) (hh : HB q B) (hb : B ≤ 300) (C : Cx pP l eE (rmD 6 8 2096) sS mM aA bB tT cC cX4_beginTracks 3 RX4 G A) (kk : ∀ (T : HS) (ad : AD) (k0 n0 : Nat), ad 0 0 = x0 → XA T ad (cn (BG q (cn q 0)) 1) ∧ XV T ad (BG q (cn q 0)) → k0 ≤ 8 → n0 ≤ 2096 → V pP l eE (rmD 6 8 2096) sS mM aA bB tT cC 3 G A T k0 n0 Q 42 [(0, .ref x0), (1, .int (nI (cn q 0)))] []) : ∀ (N : Nat) (p : Nat) (T : HS) (ad : AD) (k0 n0 : Nat), (hN9 : cn q 0 + 1 ≤ p + N) → (hi : p ≤ cn q 0) → (hx : ad 0 0 = x0) → (hinv : XA T ad (cn (BG q p) 1) ∧ XV T ad (BG q p)) → (hW : XW T ad q) → (hkn : k0 ≤ 2 * p ∧ n0 ≤ 524 * p) → V pP l eE (rmD 6 8 2096) sS mM aA bB tT cC 3 G A T k0 n0 Q 2 [(0, .ref x0), (1, .int (nI p))] [] := by
  intro N
  induction N with
  | zero =>
    intro p T ad k0 n0 hN9 hi hx hinv hW hkn
    exact absurd hN9 (by omega)
  | succ N ih =>
    intro p T ad k0 n0 hN9 hi hx hinv hW hkn
    subst hx
    obtain ⟨hAT, hVT⟩ := hinv
    obtain ⟨hk0, hn0⟩ := hkn
    obtain ⟨g1, g2, g3, g4⟩ := BG_I hB hh hb p hi
    have h04 := hB.b0
    have e0 := g3 0 (by decide) (by decide) (by decide)
    have hv30 : hI T 30 (ad 0 0) = nI (cn q 0) := by rw [hVT.v30, e0]
    have hh4 : ∀ t, t < cn q 1 → cn q (100 + t) ≤ 400 := fun t ht => by have := hh t ht; have := hB.b1; omega
    have hln : ∀ i, i < lcn q → lti q i < cn (BG q p) 1 := fun i hi => by have h1 := (lti_lt q hi).1; have h2 := BG_mono (q := q) p; have h3 : cn (BG q 0) 1 = cn q 1 := (MS_I hB hh4 (lcn q) (Nat.le_refl _)).2.1.1 1 (by decide); omega
    refine v_iload_n C 1 rfl rfl dX4_beginTracks_2 ?_
    refine v_aload_n C 0 rfl rfl dX4_beginTracks_3 ?_
    refine v_getI C (nI (cn q 0)) fl_RX4_93 hAT.k0 hv30 dX4_beginTracks_4 ?_
    refine v_icmp_ge C 42 (by decide) dX4_beginTracks_7 (fun c7 => ?_) (fun c7 => ?_)
    · obtain rfl : p = cn q 0 := by have := nge c7 (by omega); omega
      exact V.sub [0, 1] rfl (kk T ad k0 n0 rfl ⟨hAT, hVT⟩ (by omega) (by omega))
    · have hp : p < cn q 0 := nlt c7 (by omega)
      by_cases hc : tkr q p < 0
      · have htt := trivial
        refine v_aload_n C 0 rfl rfl dX4_beginTracks_10 ?_
        refine v_iload_n C 1 rfl rfl dX4_beginTracks_11 ?_
        refine v_callVq C (st := []) [.int (nI p)] (c_X4_rowAt_y l T ad (cn (BG q p) 1) p hAT (by omega)) ml_RX4_96 mi_yX4_rowAt hAT.k0 (by decide) (by decide +kernel) rfl (Nat.le_of_ble_eq_true rfl) (Nat.le_of_ble_eq_true rfl) (Nat.le_of_ble_eq_true rfl) (by show k0 + 0 ≤ 8; omega) (by show n0 + 0 ≤ 2096; omega) dX4_beginTracks_12 (fun r u h => ?_) _ rfl
        obtain ⟨rfl, rfl⟩ := h
        refine v_astore_n C [(2, .ref (ad 4 p)), (0, .ref (ad 0 0)), (1, .int (nI p))] (by decide) rfl rfl dX4_beginTracks_15 ?_
        refine v_aload_n C 0 rfl rfl dX4_beginTracks_16 ?_
        refine v_ifnull C dX4_beginTracks_17 ?_
        refine v_aload_n C 1 rfl rfl dX4_beginTracks_20 ?_
        refine v_getR C (ad 8 0) fl_RX4_30 hAT.k0 hAT.r33 dX4_beginTracks_21 ?_
        refine v_iload_n C 2 rfl rfl dX4_beginTracks_24 ?_
        refine v_callVq C (st := []) [.int (nI p)] (c_X1_takerOf l T (ad 8 0) (ad 13 0) (ad 9 0) (cn q 0) (lcn q) p (tkr q p) hAT.k8 hAT.k13 hAT.k9 hAT.r11 hAT.r7 hAT.n13 hAT.n9 hW.1 hW.2.1 hB.b0 hB.bv hp (hW.2.2.2 p hp) (tkr_bd q hp).1 (tkr_bd q hp).2) ml_RX4_158 mi_yX1_takerOf hAT.k8 (by decide) (by decide +kernel) rfl (Nat.le_of_ble_eq_true rfl) (Nat.le_of_ble_eq_true rfl) (Nat.le_of_ble_eq_true rfl) (by show k0 + 0 ≤ 8; omega) (by show n0 + 0 ≤ 2096; omega) dX4_beginTracks_25 (fun r u h => ?_) _ rfl
        obtain ⟨hz, rfl⟩ := h
        rw [if_pos hc] at hz
        subst hz
        refine v_ifnonnullN C dX4_beginTracks_28 ?_
        refine v_aload_n C 1 rfl rfl dX4_beginTracks_31 ?_
        refine v_aload_n C 0 rfl rfl dX4_beginTracks_32 ?_
        refine v_callVv C (st := []) [.ref (ad 4 p)] (c_X4_beginOrDrop l T ad q (BG q p) p g1 (by omega) hln hAT hVT hW) ml_RX4_243 mi_yX4_beginOrDrop hAT.k0 (by decide) (by decide +kernel) rfl (Nat.le_of_ble_eq_true rfl) (Nat.le_of_ble_eq_true rfl) (Nat.le_of_ble_eq_true rfl) (by show k0 + 2 ≤ 8; omega) (by show n0 + 524 ≤ 2096; omega) dX4_beginTracks_33 (fun u h => ?_) _ rfl
        obtain ⟨ad2, hx2, hA2, hV2, hW2⟩ := h
        refine v_iinc C (nI (p + 1)) 2 [(1, .int (nI (p + 1))), (2, .ref (ad 4 p)), (0, .ref (ad 0 0))] rfl (by rw [← nI_1]; rfl) (by decide) rfl dX4_beginTracks_36 ?_
        refine v_goto C 2 (by decide) dX4_beginTracks_39 ?_
        have ef := BG_bg hc
        exact V.sub [2, 0] rfl (ih (p + 1) u ad2 (k0 + 2) (n0 + 524) (by omega) hp hx2 ⟨by rw [ef]; exact hA2, by rw [ef]; exact hV2⟩ hW2 ⟨by omega, by omega⟩)
      · obtain ⟨i0, hi1, hi2, hi3, hi4⟩ := tkr_nn q hp hc
        have htk : aR T (ad 9 0) (tkr q p).toNat = some (ad 6 (tkt q p)) := by rw [hi4, hi1]; exact hW.2.2.1 i0 hi2
        refine v_aload_n C 0 rfl rfl dX4_beginTracks_10 ?_
        refine v_iload_n C 1 rfl rfl dX4_beginTracks_11 ?_
        refine v_callVq C (st := []) [.int (nI p)] (c_X4_rowAt_y l T ad (cn (BG q p) 1) p hAT (by omega)) ml_RX4_96 mi_yX4_rowAt hAT.k0 (by decide) (by decide +kernel) rfl (Nat.le_of_ble_eq_true rfl) (Nat.le_of_ble_eq_true rfl) (Nat.le_of_ble_eq_true rfl) (by show k0 + 0 ≤ 8; omega) (by show n0 + 0 ≤ 2096; omega) dX4_beginTracks_12 (fun r u h => ?_) _ rfl
        obtain ⟨rfl, rfl⟩ := h
        refine v_astore_n C [(2, .ref (ad 4 p)), (0, .ref (ad 0 0)), (1, .int (nI p))] (by decide) rfl rfl dX4_beginTracks_15 ?_
        refine v_aload_n C 0 rfl rfl dX4_beginTracks_16 ?_
        refine v_ifnull C dX4_beginTracks_17 ?_
        refine v_aload_n C 1 rfl rfl dX4_beginTracks_20 ?_
        refine v_getR C (ad 8 0) fl_RX4_30 hAT.k0 hAT.r33 dX4_beginTracks_21 ?_
        refine v_iload_n C 2 rfl rfl dX4_beginTracks_24 ?_
        refine v_callVq C (st := []) [.int (nI p)] (c_X1_takerOf l T (ad 8 0) (ad 13 0) (ad 9 0) (cn q 0) (lcn q) p (tkr q p) hAT.k8 hAT.k13 hAT.k9 hAT.r11 hAT.r7 hAT.n13 hAT.n9 hW.1 hW.2.1 hB.b0 hB.bv hp (hW.2.2.2 p hp) (tkr_bd q hp).1 (tkr_bd q hp).2) ml_RX4_158 mi_yX1_takerOf hAT.k8 (by decide) (by decide +kernel) rfl (Nat.le_of_ble_eq_true rfl) (Nat.le_of_ble_eq_true rfl) (Nat.le_of_ble_eq_true rfl) (by show k0 + 0 ≤ 8; omega) (by show n0 + 0 ≤ 2096; omega) dX4_beginTracks_25 (fun r u h => ?_) _ rfl
        obtain ⟨hz, rfl⟩ := h
        rw [if_neg hc, htk] at hz
        subst hz
        refine v_ifnonnull C 36 (by decide) dX4_beginTracks_28 ?_
        refine v_iinc C (nI (p + 1)) 2 [(1, .int (nI (p + 1))), (2, .ref (ad 4 p)), (0, .ref (ad 0 0))] rfl (by rw [← nI_1]; rfl) (by decide) rfl dX4_beginTracks_36 ?_
        refine v_goto C 2 (by decide) dX4_beginTracks_39 ?_
        have ef := BG_tk hc
        exact V.sub [2, 0] rfl (ih (p + 1) T ad k0 n0 (by omega) hp rfl ⟨by rw [ef]; exact hAT, by rw [ef]; exact hVT⟩ hW ⟨by omega, by omega⟩)
set_option maxRecDepth 100000 in
set_option maxHeartbeats 4000000 in
theorem c_X4_beginTracks (l : Launch) (S : HS) (ad : AD) (q : AS) (hB : BI q) (B : Nat) (hh : HB q B) (hb : B ≤ 300) (hA : XA S ad (cn (BG q 0) 1)) (hV : XV S ad (BG q 0)) (hW : XW S ad q) : cM l yX4_beginTracks cX4_beginTracks 3 (Option.none : Option Jvm.ClassFile.FieldType) 6 [.ref (ad 0 0)] S (pV fun u => ∃ ad2 : AD, ad2 0 0 = ad 0 0 ∧ XA u ad2 (cn (BG q (cn q 0)) 1) ∧ XV u ad2 (BG q (cn q 0))) 8 2096 := by
  refine cM_intro (by decide +kernel) cd_X4_beginTracks (Nat.le_of_ble_eq_true rfl) ?_
  intro pP eE sS mM aA bB tT cC G A C hRT hin
  refine V.lvs (lv2 := [(0, .ref (ad 0 0))]) rfl ?_
  refine v_iconst C 0 (by decide) dX4_beginTracks_0 ?_
  refine v_istore_n C [(1, .int 0), (0, .ref (ad 0 0))] (by decide) rfl rfl dX4_beginTracks_1 ?_
  refine V.sub [1, 0] rfl (lp_X4_beginTracks S (ad 0 0) q hB B hh hb C (fun T ad2 k0 n0 hx hT hk0 hn0 => ?_) (cn q 0 + 1) 0 S ad 0 0 (by omega) (by omega) rfl ⟨hA, hV⟩ hW ⟨by omega, by omega⟩)
  exact v_vret C hRT (by show k0 ≤ 8; omega) (by show n0 ≤ 2096; omega) dX4_beginTracks_42 ⟨rfl, ad2, hx, hT⟩
theorem near_O {q : AS} (hB : BI q) : (16 * iO (zz q 0 0 4)).toInt64 * (16 * iO (zz q 0 0 4)).toInt64 + (0 : Int32).toInt64 * (0 : Int32).toInt64 = lO (256 * (zz q 0 0 4 * zz q 0 0 4)) := by
  have h := hB.g4
  have e : (16 : Int32) * iO (zz q 0 0 4) = iO (16 * zz q 0 0 4) := iO_mul 16 _
  rw [e, show (0 : Int32) = iO 0 from rfl, sqF_O (by unfold bd at *; omega) (by unfold bd; omega)]
  congr 1
  have e2 : 16 * zz q 0 0 4 * (16 * zz q 0 0 4) = 256 * (zz q 0 0 4 * zz q 0 0 4) := by
    rw [Int.mul_assoc, Int.mul_left_comm (zz q 0 0 4) 16, ← Int.mul_assoc 16 16]
    rfl
  rw [e2]
  omega
theorem mx_O {a b : Int} (ha : bd a (-20000) 30000) (hb : bd b (-20000) 30000) : (if iO a < iO b then iO b else iO a) = iO (mxI a b) := by
  have e := iO_lt (a := a) (b := b) (by unfold bd at *; omega) (by unfold bd at *; omega) (by unfold bd at *; omega) (by unfold bd at *; omega)
  unfold mxI
  by_cases c : a < b
  · rw [if_pos c, if_pos (e.mpr c)]
  · rw [if_neg c, if_neg (fun z => c (e.mp z))]
theorem ab_O {a : Int} (ha : bd a (-4000) 4000) : (if 0 ≤ iO a then iO a else 0 - iO a) = iO (ab a) := by
  have e : (0 : Int32) ≤ iO a ↔ 0 ≤ a := iO_le (a := 0) (b := a) (by decide) (by decide) (by unfold bd at *; omega) (by unfold bd at *; omega)
  unfold ab
  by_cases c : 0 ≤ a
  · rw [if_pos c, if_pos (e.mpr c)]
  · rw [if_neg c, if_neg (fun z => c (e.mp z)), show (0 : Int32) = iO 0 from rfl, iO_sub, Int.zero_sub]
theorem dfA_bd {q : AS} (hB : BI q) {a b : Nat} (ha : a < cn q 1) (hb : b < cn q 1) (ax : Nat) (hax : ax < 2) : bd (dfA q a b ax) (-200000000) 200000000 := by
  have ta := (hB.bt a ha).1
  have tb := (hB.bt b hb).1
  have hm : bd (mxI (zz q 3 a 0) (zz q 3 b 0)) (-20000) 40000 := by unfold mxI bd at *; split <;> omega
  have h1 := ahd_bd hB ha hm ax hax
  have h2 := ahd_bd hB hb hm ax hax
  unfold dfA
  unfold bd at *
  omega
theorem not_gt_l {a b g : Int} (ha : bd a 0 40000000000000000) (hb : bd b 0 40000000000000000) (hg : bd g 0 2560000) (c : ¬ 0 < lg_cmp (lO (a + b)) (lO g)) : a + b ≤ g := by
  rcases Int.lt_or_le g (a + b) with z | z
  · exact absurd ((lg_cmp_gt _ _).mpr ((lO_lt (by unfold bd at *; omega) (by unfold bd at *; omega) (by unfold bd at *; omega) (by unfold bd at *; omega)).mpr z)) c
  · exact z
theorem not_gt_i {a b : Int} (ha : bd a 0 4000) (hb : bd b 0 4000) (c : ¬ 16 < iO (a + b)) : a + b ≤ 16 := by
  rcases Int.lt_or_le 16 (a + b) with z | z
  · exact absurd ((iO_lt (a := 16) (by decide) (by decide) (by unfold bd at *; omega) (by unfold bd at *; omega)).mpr z) c
  · exact z
theorem near_bd {q : AS} (hB : BI q) : bd (256 * (zz q 0 0 4 * zz q 0 0 4)) 0 2560000 := by
  have hg := hB.g4
  have h1 : bd (zz q 0 0 4) (-100) 100 := by unfold bd at *; omega
  have h2 := mul_bd h1 h1
  have h3 := sq_nn (zz q 0 0 4)
  unfold bd at *
  omega
theorem ab_bd {a : Int} (ha : bd a (-4000) 4000) : bd (ab a) 0 4000 := by unfold ab bd at *; split <;> omega
set_option maxRecDepth 100000 in
set_option maxHeartbeats 4000000 in
theorem c_X4_areNear (l : Launch) (S : HS) (ad : AD) (q : AS) (hB : BI q) (a b : Nat) (ha : a < cn q 1) (hb : b < cn q 1) (hA : XA S ad (cn q 1)) (hV : XV S ad q) : cM l yX4_areNear cX4_areNear 7 (Option.some Jvm.ClassFile.FieldType.boolean) 6 [.ref (ad 0 0), .ref (ad 6 a), .ref (ad 6 b)] S (pI fun r u => bI (nrA q a b = true) = r ∧ S = u) 0 0 := by
  refine cM_intro (by decide +kernel) cd_X4_areNear (Nat.le_of_ble_eq_true rfl) ?_
  intro pP eE sS mM aA bB tT cC G A C hRT hin
  refine V.lvs (lv2 := [(0, .ref (ad 0 0)), (1, .ref (ad 6 a)), (2, .ref (ad 6 b))]) rfl ?_
  obtain ⟨ta0, ta1, ta2, ta3, ta4⟩ := hB.bt a ha
  obtain ⟨tb0, tb1, tb2, tb3, tb4⟩ := hB.bt b hb
  have d0 := dfA_bd hB ha hb 0 (by decide)
  have d1 := dfA_bd hB ha hb 1 (by decide)
  have q0 := sq_bd d0
  have q1 := sq_bd d1
  have hg4 := hB.g4
  have hgs : bd (256 * (zz q 0 0 4 * zz q 0 0 4)) 0 2560000 := near_bd hB
  have ab0 := ab_bd (a := zz q 3 a 3 - zz q 3 b 3) (by unfold bd at *; omega)
  have ab1 := ab_bd (a := zz q 3 a 4 - zz q 3 b 4) (by unfold bd at *; omega)
  refine v_aload_n C 1 rfl rfl dX4_areNear_0 ?_
  refine v_getI C (iO (zz q 3 a 0)) fl_RX4_169 (hA.k6 a ha) (hV.tv a ha 0 (by decide)) dX4_areNear_1 ?_
  refine v_aload_n C 2 rfl rfl dX4_areNear_4 ?_
  refine v_getI C (iO (zz q 3 b 0)) fl_RX4_169 (hA.k6 b hb) (hV.tv b hb 0 (by decide)) dX4_areNear_5 ?_
  refine v_max C jm_RX4_268 (Nat.le_of_ble_eq_true rfl) (Nat.le_of_ble_eq_true rfl) (Nat.le_of_ble_eq_true rfl) (Nat.le_of_ble_eq_true rfl) (Nat.le_of_ble_eq_true rfl) dX4_areNear_8 ?_
  rw [show (if (iO (zz q 3 a 0)) < (iO (zz q 3 b 0)) then (iO (zz q 3 b 0)) else (iO (zz q 3 a 0))) = (iO (mxI (zz q 3 a 0) (zz q 3 b 0))) from mx_O ta0 tb0]
  refine v_istore_n C [(3, .int (iO (mxI (zz q 3 a 0) (zz q 3 b 0)))), (0, .ref (ad 0 0)), (1, .ref (ad 6 a)), (2, .ref (ad 6 b))] (by decide) rfl rfl dX4_areNear_11 ?_
  refine v_aload_n C 2 rfl rfl dX4_areNear_12 ?_
  refine v_iload_n C 0 rfl rfl dX4_areNear_13 ?_
  refine v_callVi C (st := []) [.int (iO (mxI (zz q 3 a 0) (zz q 3 b 0)))] (c_X3_xAt l S (ad 6 a) (iO (mxI (zz q 3 a 0) (zz q 3 b 0))) (hA.k6 a ha)) ml_RX4_272 mi_yX3_xAt (hA.k6 a ha) (by decide) (by decide +kernel) rfl (Nat.le_of_ble_eq_true rfl) (Nat.le_of_ble_eq_true rfl) (Nat.le_of_ble_eq_true rfl) (Nat.le_of_ble_eq_true rfl) (Nat.le_of_ble_eq_true rfl) dX4_areNear_14 (fun r u h => ?_) _ rfl
  obtain ⟨rfl, rfl⟩ := h
  rw [show hI S 18 (ad 6 a) + hI S 20 (ad 6 a) * (iO (mxI (zz q 3 a 0) (zz q 3 b 0)) - hI S 17 (ad 6 a)) = iO (ahd q a (mxI (zz q 3 a 0) (zz q 3 b 0)) 0) from xAt_O hV ha (mxI (zz q 3 a 0) (zz q 3 b 0))]
  refine v_aload_n C 3 rfl rfl dX4_areNear_17 ?_
  refine v_iload_n C 0 rfl rfl dX4_areNear_18 ?_
  refine v_callVi C (st := [.int (iO (ahd q a (mxI (zz q 3 a 0) (zz q 3 b 0)) 0))]) [.int (iO (mxI (zz q 3 a 0) (zz q 3 b 0)))] (c_X3_xAt l S (ad 6 b) (iO (mxI (zz q 3 a 0) (zz q 3 b 0))) (hA.k6 b hb)) ml_RX4_272 mi_yX3_xAt (hA.k6 b hb) (by decide) (by decide +kernel) rfl (Nat.le_of_ble_eq_true rfl) (Nat.le_of_ble_eq_true rfl) (Nat.le_of_ble_eq_true rfl) (Nat.le_of_ble_eq_true rfl) (Nat.le_of_ble_eq_true rfl) dX4_areNear_19 (fun r u h => ?_) _ rfl
  obtain ⟨rfl, rfl⟩ := h
  rw [show hI S 18 (ad 6 b) + hI S 20 (ad 6 b) * (iO (mxI (zz q 3 a 0) (zz q 3 b 0)) - hI S 17 (ad 6 b)) = iO (ahd q b (mxI (zz q 3 a 0) (zz q 3 b 0)) 0) from xAt_O hV hb (mxI (zz q 3 a 0) (zz q 3 b 0))]
  refine v_isub C dX4_areNear_22 ?_
  rw [show ((iO (ahd q a (mxI (zz q 3 a 0) (zz q 3 b 0)) 0)) - (iO (ahd q b (mxI (zz q 3 a 0) (zz q 3 b 0)) 0))) = (iO (dfA q a b 0)) from iO_sub _ _]
  refine v_aload_n C 2 rfl rfl dX4_areNear_23 ?_
  refine v_iload_n C 0 rfl rfl dX4_areNear_24 ?_
  refine v_callVi C (st := [.int (iO (dfA q a b 0))]) [.int (iO (mxI (zz q 3 a 0) (zz q 3 b 0)))] (c_X3_yAt l S (ad 6 a) (iO (mxI (zz q 3 a 0) (zz q 3 b 0))) (hA.k6 a ha)) ml_RX4_275 mi_yX3_yAt (hA.k6 a ha) (by decide) (by decide +kernel) rfl (Nat.le_of_ble_eq_true rfl) (Nat.le_of_ble_eq_true rfl) (Nat.le_of_ble_eq_true rfl) (Nat.le_of_ble_eq_true rfl) (Nat.le_of_ble_eq_true rfl) dX4_areNear_25 (fun r u h => ?_) _ rfl
  obtain ⟨rfl, rfl⟩ := h
  rw [show hI S 19 (ad 6 a) + hI S 21 (ad 6 a) * (iO (mxI (zz q 3 a 0) (zz q 3 b 0)) - hI S 17 (ad 6 a)) = iO (ahd q a (mxI (zz q 3 a 0) (zz q 3 b 0)) 1) from yAt_O hV ha (mxI (zz q 3 a 0) (zz q 3 b 0))]
  refine v_aload_n C 3 rfl rfl dX4_areNear_28 ?_
  refine v_iload_n C 0 rfl rfl dX4_areNear_29 ?_
  refine v_callVi C (st := [.int (iO (ahd q a (mxI (zz q 3 a 0) (zz q 3 b 0)) 1)), .int (iO (dfA q a b 0))]) [.int (iO (mxI (zz q 3 a 0) (zz q 3 b 0)))] (c_X3_yAt l S (ad 6 b) (iO (mxI (zz q 3 a 0) (zz q 3 b 0))) (hA.k6 b hb)) ml_RX4_275 mi_yX3_yAt (hA.k6 b hb) (by decide) (by decide +kernel) rfl (Nat.le_of_ble_eq_true rfl) (Nat.le_of_ble_eq_true rfl) (Nat.le_of_ble_eq_true rfl) (Nat.le_of_ble_eq_true rfl) (Nat.le_of_ble_eq_true rfl) dX4_areNear_30 (fun r u h => ?_) _ rfl
  obtain ⟨rfl, rfl⟩ := h
  rw [show hI S 19 (ad 6 b) + hI S 21 (ad 6 b) * (iO (mxI (zz q 3 a 0) (zz q 3 b 0)) - hI S 17 (ad 6 b)) = iO (ahd q b (mxI (zz q 3 a 0) (zz q 3 b 0)) 1) from yAt_O hV hb (mxI (zz q 3 a 0) (zz q 3 b 0))]
  refine v_isub C dX4_areNear_33 ?_
  rw [show ((iO (ahd q a (mxI (zz q 3 a 0) (zz q 3 b 0)) 1)) - (iO (ahd q b (mxI (zz q 3 a 0) (zz q 3 b 0)) 1))) = (iO (dfA q a b 1)) from iO_sub _ _]
  refine v_callSl C (st := []) [.int (iO (dfA q a b 0)), .int (iO (dfA q a b 1))] (c_X4_squareSum l S (iO (dfA q a b 0)) (iO (dfA q a b 1))) ml_RX4_278 ms_yX4_squareSum rfl (Nat.le_of_ble_eq_true rfl) (Nat.le_of_ble_eq_true rfl) (Nat.le_of_ble_eq_true rfl) (Nat.le_of_ble_eq_true rfl) (Nat.le_of_ble_eq_true rfl) dX4_areNear_34 (fun r u h => ?_) _ rfl
  obtain ⟨rfl, rfl⟩ := h
  rw [show ((iO (dfA q a b 0)).toInt64 * (iO (dfA q a b 0)).toInt64 + (iO (dfA q a b 1)).toInt64 * (iO (dfA q a b 1)).toInt64) = (lO (dfA q a b 0 * dfA q a b 0 + dfA q a b 1 * dfA q a b 1)) from sqF_O d0 d1]
  refine v_lstore C [(4, .long (lO (dfA q a b 0 * dfA q a b 0 + dfA q a b 1 * dfA q a b 1))), (3, .int (iO (mxI (zz q 3 a 0) (zz q 3 b 0)))), (0, .ref (ad 0 0)), (1, .ref (ad 6 a)), (2, .ref (ad 6 b))] (by decide) rfl dX4_areNear_37 ?_
  refine v_aload_n C 3 rfl rfl dX4_areNear_39 ?_
  refine v_getI C (iO (zz q 3 a 3)) fl_RX4_282 (hA.k6 a ha) (hV.tv a ha 3 (by decide)) dX4_areNear_40 ?_
  refine v_aload_n C 4 rfl rfl dX4_areNear_43 ?_
  refine v_getI C (iO (zz q 3 b 3)) fl_RX4_282 (hA.k6 b hb) (hV.tv b hb 3 (by decide)) dX4_areNear_44 ?_
  refine v_isub C dX4_areNear_47 ?_
  rw [show ((iO (zz q 3 a 3)) - (iO (zz q 3 b 3))) = (iO (zz q 3 a 3 - zz q 3 b 3)) from iO_sub _ _]
  refine v_abs C jm_RX4_285 (Nat.le_of_ble_eq_true rfl) (Nat.le_of_ble_eq_true rfl) (Nat.le_of_ble_eq_true rfl) (Nat.le_of_ble_eq_true rfl) (Nat.le_of_ble_eq_true rfl) dX4_areNear_48 ?_
  rw [show (if 0 ≤ (iO (zz q 3 a 3 - zz q 3 b 3)) then (iO (zz q 3 a 3 - zz q 3 b 3)) else 0 - (iO (zz q 3 a 3 - zz q 3 b 3))) = (iO (ab (zz q 3 a 3 - zz q 3 b 3))) from ab_O (by unfold bd at *; omega)]
  refine v_aload_n C 3 rfl rfl dX4_areNear_51 ?_
  refine v_getI C (iO (zz q 3 a 4)) fl_RX4_288 (hA.k6 a ha) (hV.tv a ha 4 (by decide)) dX4_areNear_52 ?_
  refine v_aload_n C 4 rfl rfl dX4_areNear_55 ?_
  refine v_getI C (iO (zz q 3 b 4)) fl_RX4_288 (hA.k6 b hb) (hV.tv b hb 4 (by decide)) dX4_areNear_56 ?_
  refine v_isub C dX4_areNear_59 ?_
  rw [show ((iO (zz q 3 a 4)) - (iO (zz q 3 b 4))) = (iO (zz q 3 a 4 - zz q 3 b 4)) from iO_sub _ _]
  refine v_abs C jm_RX4_285 (Nat.le_of_ble_eq_true rfl) (Nat.le_of_ble_eq_true rfl) (Nat.le_of_ble_eq_true rfl) (Nat.le_of_ble_eq_true rfl) (Nat.le_of_ble_eq_true rfl) dX4_areNear_60 ?_
  rw [show (if 0 ≤ (iO (zz q 3 a 4 - zz q 3 b 4)) then (iO (zz q 3 a 4 - zz q 3 b 4)) else 0 - (iO (zz q 3 a 4 - zz q 3 b 4))) = (iO (ab (zz q 3 a 4 - zz q 3 b 4))) from ab_O (by unfold bd at *; omega)]
  refine v_iadd C dX4_areNear_63 ?_
  rw [show ((iO (ab (zz q 3 a 3 - zz q 3 b 3))) + (iO (ab (zz q 3 a 4 - zz q 3 b 4)))) = (iO (ab (zz q 3 a 3 - zz q 3 b 3) + ab (zz q 3 a 4 - zz q 3 b 4))) from iO_add _ _]
  refine v_istore C [(6, .int (iO (ab (zz q 3 a 3 - zz q 3 b 3) + ab (zz q 3 a 4 - zz q 3 b 4)))), (4, .long (lO (dfA q a b 0 * dfA q a b 0 + dfA q a b 1 * dfA q a b 1))), (3, .int (iO (mxI (zz q 3 a 0) (zz q 3 b 0)))), (0, .ref (ad 0 0)), (1, .ref (ad 6 a)), (2, .ref (ad 6 b))] (by decide) rfl dX4_areNear_64 ?_
  refine v_lload C 1 rfl dX4_areNear_66 ?_
  refine v_aload_n C 3 rfl rfl dX4_areNear_68 ?_
  refine v_getI C (iO (zz q 0 0 4)) fl_RX4_47 hA.k0 hV.v38 dX4_areNear_69 ?_
  refine v_callSl C (st := [.long (lO (dfA q a b 0 * dfA q a b 0 + dfA q a b 1 * dfA q a b 1))]) [.int (iO (zz q 0 0 4))] (c_X4_squareOfSixteenths l S (iO (zz q 0 0 4))) ml_RX4_170 ms_yX4_squareOfSixteenths rfl (Nat.le_of_ble_eq_true rfl) (Nat.le_of_ble_eq_true rfl) (Nat.le_of_ble_eq_true rfl) (Nat.le_of_ble_eq_true rfl) (Nat.le_of_ble_eq_true rfl) dX4_areNear_72 (fun r u h => ?_) _ rfl
  obtain ⟨rfl, rfl⟩ := h
  rw [near_O hB]
  refine v_lcmp C dX4_areNear_75 ?_
  refine v_if_gt C 90 (by decide) dX4_areNear_76 (fun c76 => ?_) (fun c76 => ?_)
  · refine v_iconst C 0 (by decide) dX4_areNear_90 ?_
    exact v_zret C rfl hRT (Nat.le_of_ble_eq_true rfl) (Nat.le_of_ble_eq_true rfl) dX4_areNear_91 ⟨_, rfl, bI0 (fun z => by have := of_decide_eq_true z; unfold bd at *; have h2 := (lg_cmp_gt _ _).mp c76; rw [lO_lt (by omega) (by omega) (by omega) (by omega)] at h2; omega), rfl⟩
  · refine v_iload C 0 rfl dX4_areNear_79 ?_
    refine v_bipush C 16 (by decide) dX4_areNear_81 ?_
    refine v_icmp_gt C 90 (by decide) dX4_areNear_83 (fun c83 => ?_) (fun c83 => ?_)
    · refine v_iconst C 0 (by decide) dX4_areNear_90 ?_
      exact v_zret C rfl hRT (Nat.le_of_ble_eq_true rfl) (Nat.le_of_ble_eq_true rfl) dX4_areNear_91 ⟨_, rfl, bI0 (fun z => by have := of_decide_eq_true z; unfold bd at *; have h2 := (iO_lt (a := 16) (by decide) (by decide) (by omega) (by omega)).mp c83; omega), rfl⟩
    · refine v_iconst C 1 (by decide) dX4_areNear_86 ?_
      refine v_goto C 91 (by decide) dX4_areNear_87 ?_
      exact v_zret C rfl hRT (Nat.le_of_ble_eq_true rfl) (Nat.le_of_ble_eq_true rfl) dX4_areNear_91 ⟨_, rfl, bI1 (decide_eq_true ⟨not_gt_l q0 q1 hgs c76, not_gt_i ab0 ab1 c83⟩), rfl⟩
