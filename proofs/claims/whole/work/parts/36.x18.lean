/-- whom a report goes to -/
def gtA (q : AS) (k : Nat) : Int := if tkr q k < 0 then -1 else (tkt q k : Int)
def sgF (q : AS) (t a : Nat) (x : Int32) : Nat → Bool := fun i => decide (a ≤ i) && decide (iO (zz q 4 t i) = x)
theorem sgF_eq {S : HS} {ad : AD} {q : AS} (hV : XV S ad q) {t : Nat} (ht : t < cn q 1) (a : Nat) (x : Int32) : cntP (cntC (aI S (ad 7 t)) x a) (cn q (100 + t)) = cntP (sgF q t a x) (cn q (100 + t)) := cntP_cong (fun j hj => by
  unfold cntC sgF
  rw [hV.sg t ht j hj])
/-- the last eight signs: begun or hit -/
def quA (q : AS) (t : Nat) : Nat := cntP (sgF q t (cn q (100 + t) - 8) 110) (cn q (100 + t)) + cntP (sgF q t (cn q (100 + t) - 8) 104) (cn q (100 + t))
theorem from_O {m : Nat} (h : m ≤ 500) : (if nI m - 8 < 0 then 0 else nI m - 8) = nI (m - 8) := by
  rw [nI_iO, nI_iO, show (8 : Int32) = iO 8 from rfl, iO_sub]
  have e := iO_lt (a := (m : Int) - 8) (b := 0) (by omega) (by omega) (by decide) (by decide)
  rw [show (0 : Int32) = iO 0 from rfl]
  by_cases c : (m : Int) - 8 < 0
  · rw [if_pos (e.mpr c)]
    congr 1
    omega
  · rw [if_neg (fun z => c (e.mp z))]
    congr 1
    omega
set_option maxRecDepth 100000 in
set_option maxHeartbeats 4000000 in
theorem c_X4_goesTo (l : Launch) (hlf : l.stackTraces = false) (S : HS) (ad : AD) (q : AS) (hB : BI q) (hA : XA S ad (cn q 1)) (hV : XV S ad q) (i : Int32) : cX l yX4_goesTo cX4_goesTo 3 (Option.some Jvm.ClassFile.FieldType.int) 16 [.ref (ad 0 0), .int i] S (pI fun r u => ∃ k, k < cn q 0 ∧ i = nI k ∧ FrX S u ad ∧ iO (gtA q k) = r) (fun E u => E = eIO ∧ S = u ∧ ¬ isRp q i) 1 6 := by
  refine cX_intro (by decide +kernel) cd_X4_goesTo (Nat.le_of_ble_eq_true rfl) ?_
  intro pP eE sS mM aA bB tT cC G A C hRT hnt
  refine V.lvs (lv2 := [(0, .ref (ad 0 0)), (1, .int i)]) rfl ?_
  refine v_aload_n C 0 rfl rfl dX4_goesTo_0 ?_
  refine v_iload_n C 1 rfl rfl dX4_goesTo_1 ?_
  refine v_xcallVq C (st := []) [.int i] (c_X4_reportNumbered l hlf S ad q i hA hV.v30 hB.b0) ml_RX4_130 mi_yX4_reportNumbered hA.k0 (by decide) (by decide +kernel) rfl (Nat.le_of_ble_eq_true rfl) (Nat.le_of_ble_eq_true rfl) (Nat.le_of_ble_eq_true rfl) (Nat.le_of_ble_eq_true rfl) (Nat.le_of_ble_eq_true rfl) dX4_goesTo_2 (fun E u h => ?_) (fun r u h => ?_) _ rfl
  · obtain ⟨rfl, rfl, hx⟩ := h
    exact vx_end C hnt (Nat.le_of_ble_eq_true rfl) (Nat.le_of_ble_eq_true rfl) ⟨rfl, rfl, rp_not hx⟩
  obtain ⟨k, hk, rfl, rfl, rfl⟩ := h
  have hk4 : k < 4 := by have := hB.b0; omega
  refine v_pop C rfl dX4_goesTo_5 ?_
  refine v_aload_n C 0 rfl rfl dX4_goesTo_6 ?_
  refine v_callVv C (st := []) [] (c_X4_findBestMatching l S ad q hA hV hB) ml_RX4_111 mi_yX4_findBestMatching hA.k0 (by decide) (by decide +kernel) rfl (Nat.le_of_ble_eq_true rfl) (Nat.le_of_ble_eq_true rfl) (Nat.le_of_ble_eq_true rfl) (Nat.le_of_ble_eq_true rfl) (Nat.le_of_ble_eq_true rfl) dX4_goesTo_7 (fun T h => ?_) _ rfl
  obtain ⟨hF, hX, hXb⟩ := h
  have hAT := hF.toA hA
  have hVT := hF.toV hA hV
  have hW := XM.toW hX hXb
  by_cases hc : tkr q k < 0
  · have htt := trivial
    refine v_aload_n C 0 rfl rfl dX4_goesTo_10 ?_
    refine v_getR C (ad 8 0) fl_RX4_30 hAT.k0 hAT.r33 dX4_goesTo_11 ?_
    refine v_iload_n C 1 rfl rfl dX4_goesTo_14 ?_
    refine v_callVq C (st := []) [.int (nI k)] (c_X1_takerOf l T (ad 8 0) (ad 13 0) (ad 9 0) (cn q 0) (lcn q) k (tkr q k) hAT.k8 hAT.k13 hAT.k9 hAT.r11 hAT.r7 hAT.n13 hAT.n9 hW.1 hW.2.1 hB.b0 hB.bv hk (hW.2.2.2 k hk) (tkr_bd q hk).1 (tkr_bd q hk).2) ml_RX4_158 mi_yX1_takerOf hAT.k8 (by decide) (by decide +kernel) rfl (Nat.le_of_ble_eq_true rfl) (Nat.le_of_ble_eq_true rfl) (Nat.le_of_ble_eq_true rfl) (Nat.le_of_ble_eq_true rfl) (Nat.le_of_ble_eq_true rfl) dX4_goesTo_15 (fun r u h => ?_) _ rfl
    obtain ⟨hz, rfl⟩ := h
    rw [if_pos hc] at hz
    subst hz
    refine v_astore_nN C [(2, .null), (0, .ref (ad 0 0)), (1, .int (nI k))] (by decide) rfl rfl dX4_goesTo_18 ?_
    refine v_aload_nN C 0 rfl rfl dX4_goesTo_19 ?_
    refine v_ifnonnullN C dX4_goesTo_20 ?_
    refine v_iconst C (-1) (by decide) dX4_goesTo_23 ?_
    refine v_goto C 31 (by decide) dX4_goesTo_24 ?_
    exact v_xiret C hRT (Nat.le_of_ble_eq_true rfl) (Nat.le_of_ble_eq_true rfl) dX4_goesTo_31 ⟨_, rfl, k, hk, rfl, hF, by unfold gtA; rw [if_pos hc]; rfl⟩
  · obtain ⟨i0, hi1, hi2, hi3, hi4⟩ := tkr_nn q hk hc
    have htk : aR T (ad 9 0) (tkr q k).toNat = some (ad 6 (tkt q k)) := by rw [hi4, hi1]; exact hW.2.2.1 i0 hi2
    have htn : tkt q k < cn q 1 := by rw [hi4]; exact (lti_lt q hi2).1
    refine v_aload_n C 0 rfl rfl dX4_goesTo_10 ?_
    refine v_getR C (ad 8 0) fl_RX4_30 hAT.k0 hAT.r33 dX4_goesTo_11 ?_
    refine v_iload_n C 1 rfl rfl dX4_goesTo_14 ?_
    refine v_callVq C (st := []) [.int (nI k)] (c_X1_takerOf l T (ad 8 0) (ad 13 0) (ad 9 0) (cn q 0) (lcn q) k (tkr q k) hAT.k8 hAT.k13 hAT.k9 hAT.r11 hAT.r7 hAT.n13 hAT.n9 hW.1 hW.2.1 hB.b0 hB.bv hk (hW.2.2.2 k hk) (tkr_bd q hk).1 (tkr_bd q hk).2) ml_RX4_158 mi_yX1_takerOf hAT.k8 (by decide) (by decide +kernel) rfl (Nat.le_of_ble_eq_true rfl) (Nat.le_of_ble_eq_true rfl) (Nat.le_of_ble_eq_true rfl) (Nat.le_of_ble_eq_true rfl) (Nat.le_of_ble_eq_true rfl) dX4_goesTo_15 (fun r u h => ?_) _ rfl
    obtain ⟨hz, rfl⟩ := h
    rw [if_neg hc, htk] at hz
    subst hz
    refine v_astore_n C [(2, .ref (ad 6 (tkt q k))), (0, .ref (ad 0 0)), (1, .int (nI k))] (by decide) rfl rfl dX4_goesTo_18 ?_
    refine v_aload_n C 0 rfl rfl dX4_goesTo_19 ?_
    refine v_ifnonnull C 27 (by decide) dX4_goesTo_20 ?_
    refine v_aload_n C 0 rfl rfl dX4_goesTo_27 ?_
    refine v_getI C (nI (tkt q k)) fl_RX4_161 (hAT.k6 _ htn) (hVT.t16 _ htn) dX4_goesTo_28 ?_
    exact v_xiret C hRT (Nat.le_of_ble_eq_true rfl) (Nat.le_of_ble_eq_true rfl) dX4_goesTo_31 ⟨_, rfl, k, hk, rfl, hF, by unfold gtA; rw [if_neg hc]; exact (nI_iO _).symm⟩
set_option maxRecDepth 100000 in
set_option maxHeartbeats 4000000 in
theorem c_X4_quality (l : Launch) (hlf : l.stackTraces = false) (S : HS) (ad : AD) (q : AS) (hB : BI q) (hA : XA S ad (cn q 1)) (hV : XV S ad q) (i : Int32) : cX l yX4_quality cX4_quality 4 (Option.some Jvm.ClassFile.FieldType.int) 8 [.ref (ad 0 0), .int i] S (pI fun r u => ∃ j, j < cn q 1 ∧ i = nI j ∧ S = u ∧ nI (quA q j) = r) (fun E u => E = eIO ∧ S = u ∧ ¬ isTk q i) 1 6 := by
  refine cX_intro (by decide +kernel) cd_X4_quality (Nat.le_of_ble_eq_true rfl) ?_
  intro pP eE sS mM aA bB tT cC G A C hRT hnt
  refine V.lvs (lv2 := [(0, .ref (ad 0 0)), (1, .int i)]) rfl ?_
  refine v_aload_n C 0 rfl rfl dX4_quality_0 ?_
  refine v_iload_n C 1 rfl rfl dX4_quality_1 ?_
  refine v_xcallVq C (st := []) [.int i] (c_X4_trackNumbered l hlf S ad q i hA hV.v32) ml_RX4_291 mi_yX4_trackNumbered hA.k0 (by decide) (by decide +kernel) rfl (Nat.le_of_ble_eq_true rfl) (Nat.le_of_ble_eq_true rfl) (Nat.le_of_ble_eq_true rfl) (Nat.le_of_ble_eq_true rfl) (Nat.le_of_ble_eq_true rfl) dX4_quality_2 (fun E u h => ?_) (fun r u h => ?_) _ rfl
  · obtain ⟨rfl, rfl, hx⟩ := h
    exact vx_end C hnt (Nat.le_of_ble_eq_true rfl) (Nat.le_of_ble_eq_true rfl) ⟨rfl, rfl, tk_not hx⟩
  obtain ⟨j, hj, rfl, rfl, rfl⟩ := h
  refine v_astore_n C [(2, .ref (ad 6 j)), (0, .ref (ad 0 0)), (1, .int (nI j))] (by decide) rfl rfl dX4_quality_5 ?_
  refine v_aload_n C 0 rfl rfl dX4_quality_6 ?_
  refine v_getI C (nI (cn q (100 + j))) fl_RX4_324 (hA.k6 j hj) (hV.t27 j hj) dX4_quality_7 ?_
  refine v_bipush C 8 (by decide) dX4_quality_10 ?_
  refine v_isub C dX4_quality_12 ?_
  refine v_istore_n C [(3, .int ((nI (cn q (100 + j))) - 8)), (2, .ref (ad 6 j)), (0, .ref (ad 0 0)), (1, .int (nI j))] (by decide) rfl rfl dX4_quality_13 ?_
  refine v_aload_n C 1 rfl rfl dX4_quality_14 ?_
  refine v_iload_n C 0 rfl rfl dX4_quality_15 ?_
  refine v_bipush C 110 (by decide) dX4_quality_16 ?_
  refine v_callVi C (st := []) [.int ((nI (cn q (100 + j))) - 8), .int 110] (c_X3_countSince l S (ad 6 j) (ad 7 j) (cn q (100 + j)) (cn q (100 + j) - 8) (nI (cn q (100 + j)) - 8) 110 (from_O (hB.bh j hj).1) (hA.k6 j hj) (hA.k7 j hj) (hA.r26 j hj) (hA.n7 j hj) (hV.t27 j hj) (by have := (hB.bh j hj).1; omega) (by omega)) ml_RX4_333 mi_yX3_countSince (hA.k6 j hj) (by decide) (by decide +kernel) rfl (Nat.le_of_ble_eq_true rfl) (Nat.le_of_ble_eq_true rfl) (Nat.le_of_ble_eq_true rfl) (Nat.le_of_ble_eq_true rfl) (Nat.le_of_ble_eq_true rfl) dX4_quality_18 (fun r u h => ?_) _ rfl
  obtain ⟨rfl, rfl⟩ := h
  rw [sgF_eq hV hj]
  refine v_aload_n C 1 rfl rfl dX4_quality_21 ?_
  refine v_iload_n C 0 rfl rfl dX4_quality_22 ?_
  refine v_bipush C 104 (by decide) dX4_quality_23 ?_
  refine v_callVi C (st := [.int (nI (cntP (sgF q j (cn q (100 + j) - 8) 110) (cn q (100 + j))))]) [.int ((nI (cn q (100 + j))) - 8), .int 104] (c_X3_countSince l S (ad 6 j) (ad 7 j) (cn q (100 + j)) (cn q (100 + j) - 8) (nI (cn q (100 + j)) - 8) 104 (from_O (hB.bh j hj).1) (hA.k6 j hj) (hA.k7 j hj) (hA.r26 j hj) (hA.n7 j hj) (hV.t27 j hj) (by have := (hB.bh j hj).1; omega) (by omega)) ml_RX4_333 mi_yX3_countSince (hA.k6 j hj) (by decide) (by decide +kernel) rfl (Nat.le_of_ble_eq_true rfl) (Nat.le_of_ble_eq_true rfl) (Nat.le_of_ble_eq_true rfl) (Nat.le_of_ble_eq_true rfl) (Nat.le_of_ble_eq_true rfl) dX4_quality_25 (fun r u h => ?_) _ rfl
  obtain ⟨rfl, rfl⟩ := h
  rw [sgF_eq hV hj]
  refine v_iadd C dX4_quality_28 ?_
  exact v_xiret C hRT (Nat.le_of_ble_eq_true rfl) (Nat.le_of_ble_eq_true rfl) dX4_quality_29 ⟨_, rfl, j, hj, rfl, rfl, (nI_add' _ _).symm⟩
