/-- a number that stands for a track, a report -/
def isTk (q : AS) (i : Int32) : Prop := ¬ i < 0 ∧ ¬ nI (cn q 1) ≤ i
def isRp (q : AS) (i : Int32) : Prop := ¬ i < 0 ∧ ¬ nI (cn q 0) ≤ i
theorem tk_not {q : AS} {i : Int32} (h : i < 0 ∨ nI (cn q 1) ≤ i) : ¬ isTk q i := fun z => by rcases h with h | h; exact z.1 h; exact z.2 h
theorem rp_not {q : AS} {i : Int32} (h : i < 0 ∨ nI (cn q 0) ≤ i) : ¬ isRp q i := fun z => by rcases h with h | h; exact z.1 h; exact z.2 h
set_option maxRecDepth 100000 in
set_option maxHeartbeats 4000000 in
theorem c_X4_timeOf (l : Launch) (hlf : l.stackTraces = false) (S : HS) (ad : AD) (q : AS) (hB : BI q) (hA : XA S ad (cn q 1)) (hV : XV S ad q) (i : Int32) : cX l yX4_timeOf cX4_timeOf 2 (Option.some Jvm.ClassFile.FieldType.int) 8 [.ref (ad 0 0), .int i] S (pI fun r u => ∃ j, j < cn q 1 ∧ i = nI j ∧ S = u ∧ iO (zz q 3 j 0) = r) (fun E u => E = eIO ∧ S = u ∧ ¬ isTk q i) 1 6 := by
  refine cX_intro (by decide +kernel) cd_X4_timeOf (Nat.le_of_ble_eq_true rfl) ?_
  intro pP eE sS mM aA bB tT cC G A C hRT hnt
  refine V.lvs (lv2 := [(0, .ref (ad 0 0)), (1, .int i)]) rfl ?_
  refine v_aload_n C 0 rfl rfl dX4_timeOf_0 ?_
  refine v_iload_n C 1 rfl rfl dX4_timeOf_1 ?_
  refine v_xcallVq C (st := []) [.int i] (c_X4_trackNumbered l hlf S ad q i hA hV.v32) ml_RX4_291 mi_yX4_trackNumbered hA.k0 (by decide) (by decide +kernel) rfl (Nat.le_of_ble_eq_true rfl) (Nat.le_of_ble_eq_true rfl) (Nat.le_of_ble_eq_true rfl) (Nat.le_of_ble_eq_true rfl) (Nat.le_of_ble_eq_true rfl) dX4_timeOf_2 (fun E u h => ?_) (fun r u h => ?_) _ rfl
  · obtain ⟨rfl, rfl, hx⟩ := h
    exact vx_end C hnt (Nat.le_of_ble_eq_true rfl) (Nat.le_of_ble_eq_true rfl) ⟨rfl, rfl, tk_not hx⟩
  obtain ⟨j, hj, rfl, rfl, rfl⟩ := h
  refine v_getI C (iO (zz q 3 j 0)) fl_RX4_169 (hA.k6 j hj) (hV.tv j hj 0 (by decide)) dX4_timeOf_5 ?_
  exact v_xiret C hRT (Nat.le_of_ble_eq_true rfl) (Nat.le_of_ble_eq_true rfl) dX4_timeOf_8 ⟨_, rfl, j, hj, rfl, rfl, rfl⟩
set_option maxRecDepth 100000 in
set_option maxHeartbeats 4000000 in
theorem c_X4_hits (l : Launch) (hlf : l.stackTraces = false) (S : HS) (ad : AD) (q : AS) (hB : BI q) (hA : XA S ad (cn q 1)) (hV : XV S ad q) (i : Int32) : cX l yX4_hits cX4_hits 2 (Option.some Jvm.ClassFile.FieldType.int) 8 [.ref (ad 0 0), .int i] S (pI fun r u => ∃ j, j < cn q 1 ∧ i = nI j ∧ S = u ∧ iO (zz q 3 j 5) = r) (fun E u => E = eIO ∧ S = u ∧ ¬ isTk q i) 1 6 := by
  refine cX_intro (by decide +kernel) cd_X4_hits (Nat.le_of_ble_eq_true rfl) ?_
  intro pP eE sS mM aA bB tT cC G A C hRT hnt
  refine V.lvs (lv2 := [(0, .ref (ad 0 0)), (1, .int i)]) rfl ?_
  refine v_aload_n C 0 rfl rfl dX4_hits_0 ?_
  refine v_iload_n C 1 rfl rfl dX4_hits_1 ?_
  refine v_xcallVq C (st := []) [.int i] (c_X4_trackNumbered l hlf S ad q i hA hV.v32) ml_RX4_291 mi_yX4_trackNumbered hA.k0 (by decide) (by decide +kernel) rfl (Nat.le_of_ble_eq_true rfl) (Nat.le_of_ble_eq_true rfl) (Nat.le_of_ble_eq_true rfl) (Nat.le_of_ble_eq_true rfl) (Nat.le_of_ble_eq_true rfl) dX4_hits_2 (fun E u h => ?_) (fun r u h => ?_) _ rfl
  · obtain ⟨rfl, rfl, hx⟩ := h
    exact vx_end C hnt (Nat.le_of_ble_eq_true rfl) (Nat.le_of_ble_eq_true rfl) ⟨rfl, rfl, tk_not hx⟩
  obtain ⟨j, hj, rfl, rfl, rfl⟩ := h
  refine v_getI C (iO (zz q 3 j 5)) fl_RX4_298 (hA.k6 j hj) (hV.tv j hj 5 (by decide)) dX4_hits_5 ?_
  exact v_xiret C hRT (Nat.le_of_ble_eq_true rfl) (Nat.le_of_ble_eq_true rfl) dX4_hits_8 ⟨_, rfl, j, hj, rfl, rfl, rfl⟩
set_option maxRecDepth 100000 in
set_option maxHeartbeats 4000000 in
theorem c_X4_misses (l : Launch) (hlf : l.stackTraces = false) (S : HS) (ad : AD) (q : AS) (hB : BI q) (hA : XA S ad (cn q 1)) (hV : XV S ad q) (i : Int32) : cX l yX4_misses cX4_misses 2 (Option.some Jvm.ClassFile.FieldType.int) 8 [.ref (ad 0 0), .int i] S (pI fun r u => ∃ j, j < cn q 1 ∧ i = nI j ∧ S = u ∧ iO (zz q 3 j 6) = r) (fun E u => E = eIO ∧ S = u ∧ ¬ isTk q i) 1 6 := by
  refine cX_intro (by decide +kernel) cd_X4_misses (Nat.le_of_ble_eq_true rfl) ?_
  intro pP eE sS mM aA bB tT cC G A C hRT hnt
  refine V.lvs (lv2 := [(0, .ref (ad 0 0)), (1, .int i)]) rfl ?_
  refine v_aload_n C 0 rfl rfl dX4_misses_0 ?_
  refine v_iload_n C 1 rfl rfl dX4_misses_1 ?_
  refine v_xcallVq C (st := []) [.int i] (c_X4_trackNumbered l hlf S ad q i hA hV.v32) ml_RX4_291 mi_yX4_trackNumbered hA.k0 (by decide) (by decide +kernel) rfl (Nat.le_of_ble_eq_true rfl) (Nat.le_of_ble_eq_true rfl) (Nat.le_of_ble_eq_true rfl) (Nat.le_of_ble_eq_true rfl) (Nat.le_of_ble_eq_true rfl) dX4_misses_2 (fun E u h => ?_) (fun r u h => ?_) _ rfl
  · obtain ⟨rfl, rfl, hx⟩ := h
    exact vx_end C hnt (Nat.le_of_ble_eq_true rfl) (Nat.le_of_ble_eq_true rfl) ⟨rfl, rfl, tk_not hx⟩
  obtain ⟨j, hj, rfl, rfl, rfl⟩ := h
  refine v_getI C (iO (zz q 3 j 6)) fl_RX4_316 (hA.k6 j hj) (hV.tv j hj 6 (by decide)) dX4_misses_5 ?_
  exact v_xiret C hRT (Nat.le_of_ble_eq_true rfl) (Nat.le_of_ble_eq_true rfl) dX4_misses_8 ⟨_, rfl, j, hj, rfl, rfl, rfl⟩
set_option maxRecDepth 100000 in
set_option maxHeartbeats 4000000 in
theorem c_X4_historyLength (l : Launch) (hlf : l.stackTraces = false) (S : HS) (ad : AD) (q : AS) (hB : BI q) (hA : XA S ad (cn q 1)) (hV : XV S ad q) (i : Int32) : cX l yX4_historyLength cX4_historyLength 2 (Option.some Jvm.ClassFile.FieldType.int) 8 [.ref (ad 0 0), .int i] S (pI fun r u => ∃ j, j < cn q 1 ∧ i = nI j ∧ S = u ∧ nI (cn q (100 + j)) = r) (fun E u => E = eIO ∧ S = u ∧ ¬ isTk q i) 1 6 := by
  refine cX_intro (by decide +kernel) cd_X4_historyLength (Nat.le_of_ble_eq_true rfl) ?_
  intro pP eE sS mM aA bB tT cC G A C hRT hnt
  refine V.lvs (lv2 := [(0, .ref (ad 0 0)), (1, .int i)]) rfl ?_
  refine v_aload_n C 0 rfl rfl dX4_historyLength_0 ?_
  refine v_iload_n C 1 rfl rfl dX4_historyLength_1 ?_
  refine v_xcallVq C (st := []) [.int i] (c_X4_trackNumbered l hlf S ad q i hA hV.v32) ml_RX4_291 mi_yX4_trackNumbered hA.k0 (by decide) (by decide +kernel) rfl (Nat.le_of_ble_eq_true rfl) (Nat.le_of_ble_eq_true rfl) (Nat.le_of_ble_eq_true rfl) (Nat.le_of_ble_eq_true rfl) (Nat.le_of_ble_eq_true rfl) dX4_historyLength_2 (fun E u h => ?_) (fun r u h => ?_) _ rfl
  · obtain ⟨rfl, rfl, hx⟩ := h
    exact vx_end C hnt (Nat.le_of_ble_eq_true rfl) (Nat.le_of_ble_eq_true rfl) ⟨rfl, rfl, tk_not hx⟩
  obtain ⟨j, hj, rfl, rfl, rfl⟩ := h
  refine v_getI C (nI (cn q (100 + j))) fl_RX4_324 (hA.k6 j hj) (hV.t27 j hj) dX4_historyLength_5 ?_
  exact v_xiret C hRT (Nat.le_of_ble_eq_true rfl) (Nat.le_of_ble_eq_true rfl) dX4_historyLength_8 ⟨_, rfl, j, hj, rfl, rfl, rfl⟩
def stA (q : AS) (j : Nat) : Int32 := if zz q 3 j 7 = 0 then (if iO (zz q 3 j 5) < 3 then 116 else 99) else if zz q 3 j 7 = 2 then 109 else 108
theorem st_m {q : AS} {j : Nat} (h : ¬ zz q 3 j 7 = 0) (c : ¬ (if zz q 3 j 7 = 2 then iO (zz q 3 j 8) else -1) = -1) : stA q j = 109 := by
  unfold stA
  rw [if_neg h]
  by_cases h2 : zz q 3 j 7 = 2
  · rw [if_pos h2]
  · rw [if_neg h2] at c; exact absurd rfl c
theorem st_l {q : AS} {j : Nat} (h : ¬ zz q 3 j 7 = 0) (hs : zz q 3 j 7 = 0 ∨ zz q 3 j 7 = 1 ∨ zz q 3 j 7 = 2) (hi : zz q 3 j 7 = 2 → bd (zz q 3 j 8) 0 60) (c : (if zz q 3 j 7 = 2 then iO (zz q 3 j 8) else -1) = -1) : stA q j = 108 := by
  unfold stA
  rw [if_neg h]
  by_cases h2 : zz q 3 j 7 = 2
  · rw [if_pos h2] at c
    have hb := hi h2
    rw [show (-1 : Int32) = iO (-1) from rfl, iO_eq (by unfold bd at *; omega) (by unfold bd at *; omega) (by decide) (by decide)] at c
    unfold bd at hb
    omega
  · rw [if_neg h2]
/-- into whom a track went: a number -/
def ITO (q : AS) : Prop := ∀ t, t < cn q 1 → zz q 3 t 7 = 2 → bd (zz q 3 t 8) 0 60
set_option maxRecDepth 100000 in
set_option maxHeartbeats 4000000 in
theorem c_X4_status (l : Launch) (hlf : l.stackTraces = false) (S : HS) (ad : AD) (q : AS) (hB : BI q) (hA : XA S ad (cn q 1)) (hV : XV S ad q) (hI8 : ITO q) (i : Int32) : cX l yX4_status cX4_status 3 (Option.some Jvm.ClassFile.FieldType.char) 8 [.ref (ad 0 0), .int i] S (pI fun r u => ∃ j, j < cn q 1 ∧ i = nI j ∧ S = u ∧ stA q j = r) (fun E u => E = eIO ∧ S = u ∧ ¬ isTk q i) 1 6 := by
  refine cX_intro (by decide +kernel) cd_X4_status (Nat.le_of_ble_eq_true rfl) ?_
  intro pP eE sS mM aA bB tT cC G A C hRT hnt
  refine V.lvs (lv2 := [(0, .ref (ad 0 0)), (1, .int i)]) rfl ?_
  refine v_aload_n C 0 rfl rfl dX4_status_0 ?_
  refine v_iload_n C 1 rfl rfl dX4_status_1 ?_
  refine v_xcallVq C (st := []) [.int i] (c_X4_trackNumbered l hlf S ad q i hA hV.v32) ml_RX4_291 mi_yX4_trackNumbered hA.k0 (by decide) (by decide +kernel) rfl (Nat.le_of_ble_eq_true rfl) (Nat.le_of_ble_eq_true rfl) (Nat.le_of_ble_eq_true rfl) (Nat.le_of_ble_eq_true rfl) (Nat.le_of_ble_eq_true rfl) dX4_status_2 (fun E u h => ?_) (fun r u h => ?_) _ rfl
  · obtain ⟨rfl, rfl, hx⟩ := h
    exact vx_end C hnt (Nat.le_of_ble_eq_true rfl) (Nat.le_of_ble_eq_true rfl) ⟨rfl, rfl, tk_not hx⟩
  obtain ⟨j, hj, rfl, rfl, rfl⟩ := h
  refine v_astore_n C [(2, .ref (ad 6 j)), (0, .ref (ad 0 0)), (1, .int (nI j))] (by decide) rfl rfl dX4_status_5 ?_
  have hinto : zz q 3 j 7 = 2 → bd (zz q 3 j 8) 0 60 := hI8 j hj
  refine v_aload_n C 0 rfl rfl dX4_status_6 ?_
  refine v_getI C (bI (zz q 3 j 7 = 0)) fl_RX4_294 (hA.k6 j hj) (hV.t24 j hj) dX4_status_7 ?_
  refine v_if_eq C 29 (by decide) dX4_status_10 (fun c10 => ?_) (fun c10 => ?_)
  · refine v_aload_n C 0 rfl rfl dX4_status_29 ?_
    refine v_getI C (if zz q 3 j 7 = 2 then iO (zz q 3 j 8) else -1) fl_RX4_301 (hA.k6 j hj) (hV.t25 j hj) dX4_status_30 ?_
    refine v_iconst C (-1) (by decide) dX4_status_33 ?_
    refine v_icmp_ne C 42 (by decide) dX4_status_34 (fun c34 => ?_) (fun c34 => ?_)
    · refine v_bipush C 109 (by decide) dX4_status_42 ?_
      exact v_xzret C (by decide) hRT (Nat.le_of_ble_eq_true rfl) (Nat.le_of_ble_eq_true rfl) dX4_status_44 ⟨_, rfl, j, hj, rfl, rfl, st_m (bI_e0 c10) c34⟩
    · refine v_bipush C 108 (by decide) dX4_status_37 ?_
      refine v_goto C 44 (by decide) dX4_status_39 ?_
      exact v_xzret C (by decide) hRT (Nat.le_of_ble_eq_true rfl) (Nat.le_of_ble_eq_true rfl) dX4_status_44 ⟨_, rfl, j, hj, rfl, rfl, st_l (bI_e0 c10) (hB.bs j hj) hinto c34⟩
  · refine v_aload_n C 0 rfl rfl dX4_status_13 ?_
    refine v_getI C (iO (zz q 3 j 5)) fl_RX4_298 (hA.k6 j hj) (hV.tv j hj 5 (by decide)) dX4_status_14 ?_
    refine v_iconst C 3 (by decide) dX4_status_17 ?_
    refine v_icmp_ge C 26 (by decide) dX4_status_18 (fun c18 => ?_) (fun c18 => ?_)
    · refine v_bipush C 99 (by decide) dX4_status_26 ?_
      exact v_xzret C (by decide) hRT (Nat.le_of_ble_eq_true rfl) (Nat.le_of_ble_eq_true rfl) dX4_status_28 ⟨_, rfl, j, hj, rfl, rfl, by unfold stA; rw [if_pos (bI_n0 c10), if_neg (fun z => absurd z (Int32.not_lt.mpr c18))]⟩
    · refine v_bipush C 116 (by decide) dX4_status_21 ?_
      refine v_goto C 28 (by decide) dX4_status_23 ?_
      exact v_xzret C (by decide) hRT (Nat.le_of_ble_eq_true rfl) (Nat.le_of_ble_eq_true rfl) dX4_status_28 ⟨_, rfl, j, hj, rfl, rfl, by unfold stA; rw [if_pos (bI_n0 c10), if_pos (Int32.not_le.mp c18)]⟩
theorem pt_of {x : Int32} (h : isIn x 0 3) : ∃ k, k < 4 ∧ x = nI k := ixI2 (n := 4) h.1 (fun z => h.2 (by
  rw [Int32.le_iff_toInt_le] at z
  rw [Int32.lt_iff_toInt_lt]
  have e1 : (nI 4).toInt = 4 := rfl
  have e2 : (3 : Int32).toInt = 3 := rfl
  omega)) (by decide)
theorem st_k0 {x : Int32} (h : isIn x 0 3) (c : x = 0) : x = nI 0 := c
theorem st_k1 {x : Int32} (h : isIn x 0 3) (c : ¬ 2 ≤ x) (c2 : ¬ x = 0) : x = nI 1 := by
  obtain ⟨k, hk, rfl⟩ := pt_of h
  rcases (show k = 0 ∨ k = 1 ∨ k = 2 ∨ k = 3 by omega) with rfl | rfl | rfl | rfl
  · exact absurd rfl c2
  · rfl
  · exact absurd (by decide) c
  · exact absurd (by decide) c
theorem st_k2 {x : Int32} (h : isIn x 0 3) (c : x = 2) : x = nI 2 := c
theorem st_k3 {x : Int32} (h : isIn x 0 3) (c : 2 ≤ x) (c2 : ¬ x = 2) : x = nI 3 := by
  obtain ⟨k, hk, rfl⟩ := pt_of h
  rcases (show k = 0 ∨ k = 1 ∨ k = 2 ∨ k = 3 by omega) with rfl | rfl | rfl | rfl
  · exact absurd c (by decide)
  · exact absurd c (by decide)
  · exact absurd rfl c2
  · rfl
set_option maxRecDepth 100000 in
set_option maxHeartbeats 4000000 in
theorem c_X4_stateOf (l : Launch) (hlf : l.stackTraces = false) (S : HS) (ad : AD) (q : AS) (hB : BI q) (hA : XA S ad (cn q 1)) (hV : XV S ad q) (i x : Int32) : cX l yX4_stateOf cX4_stateOf 4 (Option.some Jvm.ClassFile.FieldType.int) 10 [.ref (ad 0 0), .int i, .int x] S (pI fun r u => ∃ j, j < cn q 1 ∧ i = nI j ∧ isIn x 0 3 ∧ ∃ k, k < 4 ∧ x = nI k ∧ S = u ∧ iO (zz q 3 j (1 + k)) = r) (fun E u => S = u ∧ ((E = eIO ∧ ¬ isTk q i) ∨ (E = eIA ∧ ∃ j, j < cn q 1 ∧ i = nI j ∧ ¬ isIn x 0 3))) 2 12 := by
  refine cX_intro (by decide +kernel) cd_X4_stateOf (Nat.le_of_ble_eq_true rfl) ?_
  intro pP eE sS mM aA bB tT cC G A C hRT hnt
  refine V.lvs (lv2 := [(0, .ref (ad 0 0)), (1, .int i), (2, .int x)]) rfl ?_
  refine v_aload_n C 0 rfl rfl dX4_stateOf_0 ?_
  refine v_iload_n C 1 rfl rfl dX4_stateOf_1 ?_
  refine v_xcallVq C (st := []) [.int i] (c_X4_trackNumbered l hlf S ad q i hA hV.v32) ml_RX4_291 mi_yX4_trackNumbered hA.k0 (by decide) (by decide +kernel) rfl (Nat.le_of_ble_eq_true rfl) (Nat.le_of_ble_eq_true rfl) (Nat.le_of_ble_eq_true rfl) (Nat.le_of_ble_eq_true rfl) (Nat.le_of_ble_eq_true rfl) dX4_stateOf_2 (fun E u h => ?_) (fun r u h => ?_) _ rfl
  · obtain ⟨rfl, rfl, hx⟩ := h
    exact vx_end C hnt (Nat.le_of_ble_eq_true rfl) (Nat.le_of_ble_eq_true rfl) ⟨rfl, Or.inl ⟨rfl, tk_not hx⟩⟩
  obtain ⟨j, hj, rfl, rfl, rfl⟩ := h
  refine v_astore_n C [(3, .ref (ad 6 j)), (0, .ref (ad 0 0)), (1, .int (nI j)), (2, .int x)] (by decide) rfl rfl dX4_stateOf_5 ?_
  refine v_iload_n C 3 rfl rfl dX4_stateOf_6 ?_
  refine v_iconst C 0 (by decide) dX4_stateOf_7 ?_
  refine v_iconst C 3 (by decide) dX4_stateOf_8 ?_
  refine v_callSi C (st := []) [.int x, .int 0, .int 3] (c_X4_isWithin l S x 0 3) ml_RX4_86 ms_yX4_isWithin rfl (Nat.le_of_ble_eq_true rfl) (Nat.le_of_ble_eq_true rfl) (Nat.le_of_ble_eq_true rfl) (Nat.le_of_ble_eq_true rfl) (Nat.le_of_ble_eq_true rfl) dX4_stateOf_9 (fun r u h => ?_) _ rfl
  obtain ⟨rfl, rfl⟩ := h
  refine v_xcallSv C (st := []) [.int (bI (¬ x < 0 ∧ ¬ 3 < x))] (c_X4_refuseUnless l hlf S (bI (¬ x < 0 ∧ ¬ 3 < x))) ml_RX4_60 ms_yX4_refuseUnless rfl (Nat.le_of_ble_eq_true rfl) (Nat.le_of_ble_eq_true rfl) (Nat.le_of_ble_eq_true rfl) (Nat.le_of_ble_eq_true rfl) (Nat.le_of_ble_eq_true rfl) dX4_stateOf_12 (fun E u h => ?_) (fun u h => ?_) _ rfl
  · obtain ⟨rfl, rfl, hx⟩ := h
    exact vx_end C hnt (Nat.le_of_ble_eq_true rfl) (Nat.le_of_ble_eq_true rfl) ⟨rfl, Or.inr ⟨rfl, j, hj, rfl, fun z => bI_e0 hx z⟩⟩
  obtain ⟨rfl, hok⟩ := h
  refine v_iload_n C 3 rfl rfl dX4_stateOf_15 ?_
  refine v_iconst C 2 (by decide) dX4_stateOf_16 ?_
  refine v_icmp_ge C 36 (by decide) dX4_stateOf_17 (fun c17 => ?_) (fun c17 => ?_)
  · refine v_iload_n C 3 rfl rfl dX4_stateOf_36 ?_
    refine v_iconst C 2 (by decide) dX4_stateOf_37 ?_
    refine v_icmp_ne C 48 (by decide) dX4_stateOf_38 (fun c38 => ?_) (fun c38 => ?_)
    · refine v_aload_n C 0 rfl rfl dX4_stateOf_48 ?_
      refine v_getI C (iO (zz q 3 j 4)) fl_RX4_288 (hA.k6 j hj) (hV.tv j hj 4 (by decide)) dX4_stateOf_49 ?_
      exact v_xiret C hRT (Nat.le_of_ble_eq_true rfl) (Nat.le_of_ble_eq_true rfl) dX4_stateOf_52 ⟨_, rfl, j, hj, rfl, (bI_n0 hok : ¬ x < 0 ∧ ¬ 3 < x), 3, by decide, st_k3 (bI_n0 hok : ¬ x < 0 ∧ ¬ 3 < x) c17 c38, rfl, rfl⟩
    · refine v_aload_n C 0 rfl rfl dX4_stateOf_41 ?_
      refine v_getI C (iO (zz q 3 j 3)) fl_RX4_282 (hA.k6 j hj) (hV.tv j hj 3 (by decide)) dX4_stateOf_42 ?_
      refine v_goto C 52 (by decide) dX4_stateOf_45 ?_
      exact v_xiret C hRT (Nat.le_of_ble_eq_true rfl) (Nat.le_of_ble_eq_true rfl) dX4_stateOf_52 ⟨_, rfl, j, hj, rfl, (bI_n0 hok : ¬ x < 0 ∧ ¬ 3 < x), 2, by decide, st_k2 (bI_n0 hok : ¬ x < 0 ∧ ¬ 3 < x) c38, rfl, rfl⟩
  · refine v_iload_n C 3 rfl rfl dX4_stateOf_20 ?_
    refine v_if_ne C 31 (by decide) dX4_stateOf_21 (fun c21 => ?_) (fun c21 => ?_)
    · refine v_aload_n C 0 rfl rfl dX4_stateOf_31 ?_
      refine v_getI C (iO (zz q 3 j 2)) fl_RX4_307 (hA.k6 j hj) (hV.tv j hj 2 (by decide)) dX4_stateOf_32 ?_
      exact v_xiret C hRT (Nat.le_of_ble_eq_true rfl) (Nat.le_of_ble_eq_true rfl) dX4_stateOf_35 ⟨_, rfl, j, hj, rfl, (bI_n0 hok : ¬ x < 0 ∧ ¬ 3 < x), 1, by decide, st_k1 (bI_n0 hok : ¬ x < 0 ∧ ¬ 3 < x) c17 c21, rfl, rfl⟩
    · refine v_aload_n C 0 rfl rfl dX4_stateOf_24 ?_
      refine v_getI C (iO (zz q 3 j 1)) fl_RX4_304 (hA.k6 j hj) (hV.tv j hj 1 (by decide)) dX4_stateOf_25 ?_
      refine v_goto C 35 (by decide) dX4_stateOf_28 ?_
      exact v_xiret C hRT (Nat.le_of_ble_eq_true rfl) (Nat.le_of_ble_eq_true rfl) dX4_stateOf_35 ⟨_, rfl, j, hj, rfl, (bI_n0 hok : ¬ x < 0 ∧ ¬ 3 < x), 0, by decide, st_k0 (bI_n0 hok : ¬ x < 0 ∧ ¬ 3 < x) c21, rfl, rfl⟩
def isAk (t : Int32) : Prop := ¬ t < (-9999) ∧ ¬ 39999 < t
theorem ak_bd {t : Int32} (h : isAk t) : bd t.toInt (-9999) 39999 := by
  have := isIn_bd (lo := -9999) (hi := 39999) h
  exact this
theorem prd_O {q : AS} (hB : BI q) {j : Nat} (hj : j < cn q 1) {t : Int32} (h : isAk t) (ax : Nat) (hax : ax < 2) : fdv (iO (ahd q j t.toInt ax)) 16 = iO (ahd q j t.toInt ax / 16) := by
  have hb := ahd_bd hB hj (time := t.toInt) (by have := ak_bd h; unfold bd at *; omega) ax hax
  exact fdv_O (b := 16) (by unfold bd at *; omega) (by unfold bd at *; omega) (by decide) (by decide)
theorem xAt_t {S : HS} {ad : AD} {q : AS} (hV : XV S ad q) {j : Nat} (hj : j < cn q 1) (t : Int32) : hI S 18 (ad 6 j) + hI S 20 (ad 6 j) * (t - hI S 17 (ad 6 j)) = iO (ahd q j t.toInt 0) := by
  have := xAt_O hV hj t.toInt
  rw [iO_of] at this
  exact this
theorem yAt_t {S : HS} {ad : AD} {q : AS} (hV : XV S ad q) {j : Nat} (hj : j < cn q 1) (t : Int32) : hI S 19 (ad 6 j) + hI S 21 (ad 6 j) * (t - hI S 17 (ad 6 j)) = iO (ahd q j t.toInt 1) := by
  have := yAt_O hV hj t.toInt
  rw [iO_of] at this
  exact this
set_option maxRecDepth 100000 in
set_option maxHeartbeats 4000000 in
theorem c_X4_predicted (l : Launch) (hlf : l.stackTraces = false) (S : HS) (ad : AD) (q : AS) (hB : BI q) (hA : XA S ad (cn q 1)) (hV : XV S ad q) (i t z : Int32) : cX l yX4_predicted cX4_predicted 5 (Option.some Jvm.ClassFile.FieldType.int) 10 [.ref (ad 0 0), .int i, .int t, .int z] S (pI fun r u => ∃ j, j < cn q 1 ∧ i = nI j ∧ isAk t ∧ S = u ∧ (if z = 0 then iO (ahd q j t.toInt 0 / 16) else iO (ahd q j t.toInt 1 / 16)) = r) (fun E u => S = u ∧ ((E = eIO ∧ ¬ isTk q i) ∨ (E = eIA ∧ ∃ j, j < cn q 1 ∧ i = nI j ∧ ¬ isAk t))) 2 12 := by
  refine cX_intro (by decide +kernel) cd_X4_predicted (Nat.le_of_ble_eq_true rfl) ?_
  intro pP eE sS mM aA bB tT cC G A C hRT hnt
  refine V.lvs (lv2 := [(0, .ref (ad 0 0)), (1, .int i), (2, .int t), (3, .int z)]) rfl ?_
  refine v_aload_n C 0 rfl rfl dX4_predicted_0 ?_
  refine v_iload_n C 1 rfl rfl dX4_predicted_1 ?_
  refine v_xcallVq C (st := []) [.int i] (c_X4_trackNumbered l hlf S ad q i hA hV.v32) ml_RX4_291 mi_yX4_trackNumbered hA.k0 (by decide) (by decide +kernel) rfl (Nat.le_of_ble_eq_true rfl) (Nat.le_of_ble_eq_true rfl) (Nat.le_of_ble_eq_true rfl) (Nat.le_of_ble_eq_true rfl) (Nat.le_of_ble_eq_true rfl) dX4_predicted_2 (fun E u h => ?_) (fun r u h => ?_) _ rfl
  · obtain ⟨rfl, rfl, hx⟩ := h
    exact vx_end C hnt (Nat.le_of_ble_eq_true rfl) (Nat.le_of_ble_eq_true rfl) ⟨rfl, Or.inl ⟨rfl, tk_not hx⟩⟩
  obtain ⟨j, hj, rfl, rfl, rfl⟩ := h
  refine v_astore C [(4, .ref (ad 6 j)), (0, .ref (ad 0 0)), (1, .int (nI j)), (2, .int t), (3, .int z)] (by decide) rfl dX4_predicted_5 ?_
  refine v_iload_n C 3 rfl rfl dX4_predicted_7 ?_
  refine v_callSi C (st := []) [.int t] (c_X4_isAskedTime l S t) ml_RX4_310 ms_yX4_isAskedTime rfl (Nat.le_of_ble_eq_true rfl) (Nat.le_of_ble_eq_true rfl) (Nat.le_of_ble_eq_true rfl) (Nat.le_of_ble_eq_true rfl) (Nat.le_of_ble_eq_true rfl) dX4_predicted_8 (fun r u h => ?_) _ rfl
  obtain ⟨rfl, rfl⟩ := h
  refine v_xcallSv C (st := []) [.int (bI (¬ t < (-9999) ∧ ¬ 39999 < t))] (c_X4_refuseUnless l hlf S (bI (¬ t < (-9999) ∧ ¬ 39999 < t))) ml_RX4_60 ms_yX4_refuseUnless rfl (Nat.le_of_ble_eq_true rfl) (Nat.le_of_ble_eq_true rfl) (Nat.le_of_ble_eq_true rfl) (Nat.le_of_ble_eq_true rfl) (Nat.le_of_ble_eq_true rfl) dX4_predicted_11 (fun E u h => ?_) (fun u h => ?_) _ rfl
  · obtain ⟨rfl, rfl, hx⟩ := h
    exact vx_end C hnt (Nat.le_of_ble_eq_true rfl) (Nat.le_of_ble_eq_true rfl) ⟨rfl, Or.inr ⟨rfl, j, hj, rfl, fun z => bI_e0 hx z⟩⟩
  obtain ⟨rfl, hok⟩ := h
  refine v_iload_n C 4 rfl rfl dX4_predicted_14 ?_
  refine v_if_eq C 27 (by decide) dX4_predicted_15 (fun c15 => ?_) (fun c15 => ?_)
  · refine v_aload C 0 rfl dX4_predicted_27 ?_
    refine v_iload_n C 3 rfl rfl dX4_predicted_29 ?_
    refine v_callVi C (st := []) [.int t] (c_X3_xAt l S (ad 6 j) t (hA.k6 j hj)) ml_RX4_272 mi_yX3_xAt (hA.k6 j hj) (by decide) (by decide +kernel) rfl (Nat.le_of_ble_eq_true rfl) (Nat.le_of_ble_eq_true rfl) (Nat.le_of_ble_eq_true rfl) (Nat.le_of_ble_eq_true rfl) (Nat.le_of_ble_eq_true rfl) dX4_predicted_30 (fun r u h => ?_) _ rfl
    obtain ⟨rfl, rfl⟩ := h
    rw [xAt_t hV hj]
    refine v_bipush C 16 (by decide) dX4_predicted_33 ?_
    refine v_callSi C (st := []) [.int (iO (ahd q j t.toInt 0)), .int 16] (c_J9_floorDiv_7cf53 l S (iO (ahd q j t.toInt 0)) 16 (by decide)) ml_RX4_313 ms_yJ9_floorDiv_7cf53 rfl (Nat.le_of_ble_eq_true rfl) (Nat.le_of_ble_eq_true rfl) (Nat.le_of_ble_eq_true rfl) (Nat.le_of_ble_eq_true rfl) (Nat.le_of_ble_eq_true rfl) dX4_predicted_35 (fun r u h => ?_) _ rfl
    obtain ⟨rfl, rfl⟩ := h
    rw [prd_O hB hj (bI_n0 hok : ¬ t < (-9999) ∧ ¬ 39999 < t) 0 (by decide)]
    exact v_xiret C hRT (Nat.le_of_ble_eq_true rfl) (Nat.le_of_ble_eq_true rfl) dX4_predicted_38 ⟨_, rfl, j, hj, rfl, (bI_n0 hok : ¬ t < (-9999) ∧ ¬ 39999 < t), rfl, by rw [if_pos c15]⟩
  · refine v_aload C 0 rfl dX4_predicted_18 ?_
    refine v_iload_n C 3 rfl rfl dX4_predicted_20 ?_
    refine v_callVi C (st := []) [.int t] (c_X3_yAt l S (ad 6 j) t (hA.k6 j hj)) ml_RX4_275 mi_yX3_yAt (hA.k6 j hj) (by decide) (by decide +kernel) rfl (Nat.le_of_ble_eq_true rfl) (Nat.le_of_ble_eq_true rfl) (Nat.le_of_ble_eq_true rfl) (Nat.le_of_ble_eq_true rfl) (Nat.le_of_ble_eq_true rfl) dX4_predicted_21 (fun r u h => ?_) _ rfl
    obtain ⟨rfl, rfl⟩ := h
    rw [yAt_t hV hj]
    refine v_goto C 33 (by decide) dX4_predicted_24 ?_
    refine v_bipush C 16 (by decide) dX4_predicted_33 ?_
    refine v_callSi C (st := []) [.int (iO (ahd q j t.toInt 1)), .int 16] (c_J9_floorDiv_7cf53 l S (iO (ahd q j t.toInt 1)) 16 (by decide)) ml_RX4_313 ms_yJ9_floorDiv_7cf53 rfl (Nat.le_of_ble_eq_true rfl) (Nat.le_of_ble_eq_true rfl) (Nat.le_of_ble_eq_true rfl) (Nat.le_of_ble_eq_true rfl) (Nat.le_of_ble_eq_true rfl) dX4_predicted_35 (fun r u h => ?_) _ rfl
    obtain ⟨rfl, rfl⟩ := h
    rw [prd_O hB hj (bI_n0 hok : ¬ t < (-9999) ∧ ¬ 39999 < t) 1 (by decide)]
    exact v_xiret C hRT (Nat.le_of_ble_eq_true rfl) (Nat.le_of_ble_eq_true rfl) dX4_predicted_38 ⟨_, rfl, j, hj, rfl, (bI_n0 hok : ¬ t < (-9999) ∧ ¬ 39999 < t), rfl, by rw [if_neg c15]⟩
