def isLv (q : AS) (i : Int32) : Prop := ∃ j, j < cn q 1 ∧ i = nI j ∧ zz q 3 j 7 = 0
theorem lv_not {q : AS} {i : Int32} (h : i < 0 ∨ nI (cn q 1) ≤ i) (hn : cn q 1 ≤ 60) : ¬ isLv q i := fun ⟨j, hj, e, _⟩ => by
  subst e
  rcases h with h | h
  · exact nI_pos (by omega) h
  · exact absurd (nge h (by omega)) (by omega)
theorem lv_dead {q : AS} {j : Nat} (hj : j < 60) (h : ¬ zz q 3 j 7 = 0) (hn : cn q 1 ≤ 60) : ¬ isLv q (nI j) := fun ⟨j', hj', e, h2⟩ => by
  have := nI_inj e (by omega) (by omega)
  subst this
  exact h h2
set_option maxRecDepth 100000 in
set_option maxHeartbeats 4000000 in
theorem c_X4_liveNumbered (l : Launch) (hlf : l.stackTraces = false) (S : HS) (ad : AD) (q : AS) (hB : BI q) (hA : XA S ad (cn q 1)) (hV : XV S ad q) (i : Int32) : cX l yX4_liveNumbered cX4_liveNumbered 3 (Option.some (Jvm.ClassFile.FieldType.object "TrackFusion$Track")) 6 [.ref (ad 0 0), .int i] S (pQ fun r u => ∃ j, j < cn q 1 ∧ i = nI j ∧ zz q 3 j 7 = 0 ∧ some (ad 6 j) = r ∧ S = u) (fun E u => E = eNE ∧ S = u ∧ ¬ isLv q i) 1 6 := by
  refine cX_intro (by decide +kernel) cd_X4_liveNumbered (Nat.le_of_ble_eq_true rfl) ?_
  intro pP eE sS mM aA bB tT cC G A C hRT hnt
  refine V.lvs (lv2 := [(0, .ref (ad 0 0)), (1, .int i)]) rfl ?_
  have hn6 := hA.hn
  by_cases hi : i < 0 ∨ nI (cn q 1) ≤ i
  · refine v_aload_n C 0 rfl rfl dX4_liveNumbered_0 ?_
    refine v_iload_n C 1 rfl rfl dX4_liveNumbered_1 ?_
    refine v_callVq C (st := []) [.int i] (c_X4_liveTrackAt_n l S ad (cn q 1) i hA hi) ml_RX4_187 mi_yX4_liveTrackAt hA.k0 (by decide) (by decide +kernel) rfl (Nat.le_of_ble_eq_true rfl) (Nat.le_of_ble_eq_true rfl) (Nat.le_of_ble_eq_true rfl) (Nat.le_of_ble_eq_true rfl) (Nat.le_of_ble_eq_true rfl) dX4_liveNumbered_2 (fun r u h => ?_) _ rfl
    obtain ⟨rfl, rfl⟩ := h
    refine v_astore_nN C [(2, .null), (0, .ref (ad 0 0)), (1, .int i)] (by decide) rfl rfl dX4_liveNumbered_5 ?_
    refine v_aload_nN C 0 rfl rfl dX4_liveNumbered_6 ?_
    refine v_ifnonnullN C dX4_liveNumbered_7 ?_
    exact v_throwN C hlf tn_350 hnt (Nat.le_of_ble_eq_true rfl) (Nat.le_of_ble_eq_true rfl) (Nat.le_of_ble_eq_true rfl) (Nat.le_of_ble_eq_true rfl) (Nat.le_of_ble_eq_true rfl) (Nat.le_of_ble_eq_true rfl) (Nat.le_of_ble_eq_true rfl) ⟨rfl, rfl, lv_not hi hn6⟩ dX4_liveNumbered_10 dX4_liveNumbered_13 dX4_liveNumbered_14 dX4_liveNumbered_17 dX4_liveNumbered_20
  · obtain ⟨j, hj, rfl⟩ := ixI2 (n := cn q 1) (fun z => hi (Or.inl z)) (fun z => hi (Or.inr z)) (by omega)
    by_cases hc : zz q 3 j 7 = 0
    · have hv9 : hI S 24 (ad 6 j) = 1 := by rw [hV.t24 j hj]; exact bI1 hc
      refine v_aload_n C 0 rfl rfl dX4_liveNumbered_0 ?_
      refine v_iload_n C 1 rfl rfl dX4_liveNumbered_1 ?_
      refine v_callVq C (st := []) [.int (nI j)] (c_X4_liveTrackAt_y l S ad (cn q 1) j hA hj hv9) ml_RX4_187 mi_yX4_liveTrackAt hA.k0 (by decide) (by decide +kernel) rfl (Nat.le_of_ble_eq_true rfl) (Nat.le_of_ble_eq_true rfl) (Nat.le_of_ble_eq_true rfl) (Nat.le_of_ble_eq_true rfl) (Nat.le_of_ble_eq_true rfl) dX4_liveNumbered_2 (fun r u h => ?_) _ rfl
      obtain ⟨rfl, rfl⟩ := h
      refine v_astore_n C [(2, .ref (ad 6 j)), (0, .ref (ad 0 0)), (1, .int (nI j))] (by decide) rfl rfl dX4_liveNumbered_5 ?_
      refine v_aload_n C 0 rfl rfl dX4_liveNumbered_6 ?_
      refine v_ifnonnull C 21 (by decide) dX4_liveNumbered_7 ?_
      refine v_aload_n C 0 rfl rfl dX4_liveNumbered_21 ?_
      exact v_xaret (r := (some (ad 6 j))) C (Or.inl ⟨_, rfl⟩) hRT (Nat.le_of_ble_eq_true rfl) (Nat.le_of_ble_eq_true rfl) dX4_liveNumbered_22 ⟨_, rfl, j, hj, rfl, hc, rfl, rfl⟩
    · have hv9 : hI S 24 (ad 6 j) = 0 := by rw [hV.t24 j hj]; exact bI0 hc
      refine v_aload_n C 0 rfl rfl dX4_liveNumbered_0 ?_
      refine v_iload_n C 1 rfl rfl dX4_liveNumbered_1 ?_
      refine v_callVq C (st := []) [.int (nI j)] (c_X4_liveTrackAt_d l S ad (cn q 1) j hA hj hv9) ml_RX4_187 mi_yX4_liveTrackAt hA.k0 (by decide) (by decide +kernel) rfl (Nat.le_of_ble_eq_true rfl) (Nat.le_of_ble_eq_true rfl) (Nat.le_of_ble_eq_true rfl) (Nat.le_of_ble_eq_true rfl) (Nat.le_of_ble_eq_true rfl) dX4_liveNumbered_2 (fun r u h => ?_) _ rfl
      obtain ⟨rfl, rfl⟩ := h
      refine v_astore_nN C [(2, .null), (0, .ref (ad 0 0)), (1, .int (nI j))] (by decide) rfl rfl dX4_liveNumbered_5 ?_
      refine v_aload_nN C 0 rfl rfl dX4_liveNumbered_6 ?_
      refine v_ifnonnullN C dX4_liveNumbered_7 ?_
      exact v_throwN C hlf tn_350 hnt (Nat.le_of_ble_eq_true rfl) (Nat.le_of_ble_eq_true rfl) (Nat.le_of_ble_eq_true rfl) (Nat.le_of_ble_eq_true rfl) (Nat.le_of_ble_eq_true rfl) (Nat.le_of_ble_eq_true rfl) (Nat.le_of_ble_eq_true rfl) ⟨rfl, rfl, lv_dead (by omega) hc hn6⟩ dX4_liveNumbered_10 dX4_liveNumbered_13 dX4_liveNumbered_14 dX4_liveNumbered_17 dX4_liveNumbered_20
set_option maxRecDepth 100000 in
set_option maxHeartbeats 4000000 in
theorem c_X4_distance (l : Launch) (hlf : l.stackTraces = false) (S : HS) (ad : AD) (q : AS) (hB : BI q) (hA : XA S ad (cn q 1)) (hV : XV S ad q) (i t : Int32) : cX l yX4_distance cX4_distance 4 (Option.some Jvm.ClassFile.FieldType.long) 12 [.ref (ad 0 0), .int i, .int t] S (pL fun r u => ∃ k, k < cn q 0 ∧ i = nI k ∧ ∃ j, j < cn q 1 ∧ t = nI j ∧ zz q 3 j 7 = 0 ∧ S = u ∧ lO (dst q k j) = r) (fun E u => S = u ∧ ((E = eIO ∧ ¬ isRp q i) ∨ (E = eNE ∧ (∃ k, k < cn q 0 ∧ i = nI k) ∧ ¬ isLv q t))) 2 12 := by
  refine cX_intro (by decide +kernel) cd_X4_distance (Nat.le_of_ble_eq_true rfl) ?_
  intro pP eE sS mM aA bB tT cC G A C hRT hnt
  refine V.lvs (lv2 := [(0, .ref (ad 0 0)), (1, .int i), (2, .int t)]) rfl ?_
  refine v_aload_n C 0 rfl rfl dX4_distance_0 ?_
  refine v_iload_n C 1 rfl rfl dX4_distance_1 ?_
  refine v_xcallVq C (st := []) [.int i] (c_X4_reportNumbered l hlf S ad q i hA hV.v30 hB.b0) ml_RX4_130 mi_yX4_reportNumbered hA.k0 (by decide) (by decide +kernel) rfl (Nat.le_of_ble_eq_true rfl) (Nat.le_of_ble_eq_true rfl) (Nat.le_of_ble_eq_true rfl) (Nat.le_of_ble_eq_true rfl) (Nat.le_of_ble_eq_true rfl) dX4_distance_2 (fun E u h => ?_) (fun r u h => ?_) _ rfl
  · obtain ⟨rfl, rfl, hx⟩ := h
    exact vx_end C hnt (Nat.le_of_ble_eq_true rfl) (Nat.le_of_ble_eq_true rfl) ⟨rfl, Or.inl ⟨rfl, rp_not hx⟩⟩
  obtain ⟨k, hk, rfl, rfl, rfl⟩ := h
  have hk4 : k < 4 := by have := hB.b0; omega
  refine v_astore_n C [(3, .ref (ad 4 k)), (0, .ref (ad 0 0)), (1, .int (nI k)), (2, .int t)] (by decide) rfl rfl dX4_distance_5 ?_
  refine v_aload_n C 1 rfl rfl dX4_distance_6 ?_
  refine v_iload_n C 3 rfl rfl dX4_distance_7 ?_
  refine v_xcallVq C (st := []) [.int t] (c_X4_liveNumbered l hlf S ad q hB hA hV t) ml_RX4_133 mi_yX4_liveNumbered hA.k0 (by decide) (by decide +kernel) rfl (Nat.le_of_ble_eq_true rfl) (Nat.le_of_ble_eq_true rfl) (Nat.le_of_ble_eq_true rfl) (Nat.le_of_ble_eq_true rfl) (Nat.le_of_ble_eq_true rfl) dX4_distance_8 (fun E u h => ?_) (fun r u h => ?_) _ rfl
  · obtain ⟨rfl, rfl, hx⟩ := h
    exact vx_end C hnt (Nat.le_of_ble_eq_true rfl) (Nat.le_of_ble_eq_true rfl) ⟨rfl, Or.inr ⟨rfl, ⟨k, hk, rfl⟩, hx⟩⟩
  obtain ⟨j, hj, rfl, hl7, rfl, rfl⟩ := h
  refine v_aload_n C 0 rfl rfl dX4_distance_11 ?_
  refine v_callVl C (st := []) [.ref (ad 4 k)] (c_X3_distanceTo l S (ad 6 j) (ad 4 k) (hA.k6 j hj) (hA.k4 k hk4)) ml_RX4_137 mi_yX3_distanceTo (hA.k6 j hj) (by decide) (by decide +kernel) rfl (Nat.le_of_ble_eq_true rfl) (Nat.le_of_ble_eq_true rfl) (Nat.le_of_ble_eq_true rfl) (Nat.le_of_ble_eq_true rfl) (Nat.le_of_ble_eq_true rfl) dX4_distance_12 (fun r u h => ?_) _ rfl
  obtain ⟨rfl, rfl⟩ := h
  rw [dstF_O hV hB hk hj]
  exact v_xlret C hRT (Nat.le_of_ble_eq_true rfl) (Nat.le_of_ble_eq_true rfl) dX4_distance_15 ⟨_, rfl, k, hk, rfl, j, hj, rfl, hl7, rfl, rfl⟩
theorem ctk_b (q : AS) (hB : BI q) {k j : Nat} (hk : k < cn q 0) (hj : j < cn q 1) : ctk q k j = -1 ∨ bd (ctk q k j) 0 64000000 := by
  have h1 := gsq_bd hB
  have h2 := dst_bd hB hk hj
  unfold ctk
  split
  · exact Or.inl rfl
  · right
    unfold bd at *
    omega
theorem cm_p {z : Int} (h : z = -1 ∨ bd z 0 64000000) (c : ¬ lg_cmp (lO z) (-1) = 0) : 0 ≤ z := by
  rcases h with h | h
  · exact absurd ((lg_cmp_eq _ _).mpr (by rw [h]; rfl)) c
  · exact h.1
set_option maxRecDepth 100000 in
set_option maxHeartbeats 4000000 in
theorem c_X4_canTake (l : Launch) (hlf : l.stackTraces = false) (S : HS) (ad : AD) (q : AS) (hB : BI q) (hA : XA S ad (cn q 1)) (hV : XV S ad q) (i t : Int32) : cX l yX4_canTake cX4_canTake 4 (Option.some Jvm.ClassFile.FieldType.boolean) 12 [.ref (ad 0 0), .int i, .int t] S (pI fun r u => ∃ k, k < cn q 0 ∧ i = nI k ∧ ∃ j, j < cn q 1 ∧ t = nI j ∧ zz q 3 j 7 = 0 ∧ S = u ∧ bI (0 ≤ ctk q k j) = r) (fun E u => S = u ∧ ((E = eIO ∧ ¬ isRp q i) ∨ (E = eNE ∧ (∃ k, k < cn q 0 ∧ i = nI k) ∧ ¬ isLv q t))) 2 12 := by
  refine cX_intro (by decide +kernel) cd_X4_canTake (Nat.le_of_ble_eq_true rfl) ?_
  intro pP eE sS mM aA bB tT cC G A C hRT hnt
  refine V.lvs (lv2 := [(0, .ref (ad 0 0)), (1, .int i), (2, .int t)]) rfl ?_
  refine v_aload_n C 0 rfl rfl dX4_canTake_0 ?_
  refine v_iload_n C 1 rfl rfl dX4_canTake_1 ?_
  refine v_xcallVq C (st := []) [.int i] (c_X4_reportNumbered l hlf S ad q i hA hV.v30 hB.b0) ml_RX4_130 mi_yX4_reportNumbered hA.k0 (by decide) (by decide +kernel) rfl (Nat.le_of_ble_eq_true rfl) (Nat.le_of_ble_eq_true rfl) (Nat.le_of_ble_eq_true rfl) (Nat.le_of_ble_eq_true rfl) (Nat.le_of_ble_eq_true rfl) dX4_canTake_2 (fun E u h => ?_) (fun r u h => ?_) _ rfl
  · obtain ⟨rfl, rfl, hx⟩ := h
    exact vx_end C hnt (Nat.le_of_ble_eq_true rfl) (Nat.le_of_ble_eq_true rfl) ⟨rfl, Or.inl ⟨rfl, rp_not hx⟩⟩
  obtain ⟨k, hk, rfl, rfl, rfl⟩ := h
  have hk4 : k < 4 := by have := hB.b0; omega
  refine v_astore_n C [(3, .ref (ad 4 k)), (0, .ref (ad 0 0)), (1, .int (nI k)), (2, .int t)] (by decide) rfl rfl dX4_canTake_5 ?_
  refine v_aload_n C 1 rfl rfl dX4_canTake_6 ?_
  refine v_aload_n C 0 rfl rfl dX4_canTake_7 ?_
  refine v_aload_n C 1 rfl rfl dX4_canTake_8 ?_
  refine v_iload_n C 3 rfl rfl dX4_canTake_9 ?_
  refine v_xcallVq C (st := [.ref (ad 4 k), .ref (ad 0 0)]) [.int t] (c_X4_liveNumbered l hlf S ad q hB hA hV t) ml_RX4_133 mi_yX4_liveNumbered hA.k0 (by decide) (by decide +kernel) rfl (Nat.le_of_ble_eq_true rfl) (Nat.le_of_ble_eq_true rfl) (Nat.le_of_ble_eq_true rfl) (Nat.le_of_ble_eq_true rfl) (Nat.le_of_ble_eq_true rfl) dX4_canTake_10 (fun E u h => ?_) (fun r u h => ?_) _ rfl
  · obtain ⟨rfl, rfl, hx⟩ := h
    exact vx_end C hnt (Nat.le_of_ble_eq_true rfl) (Nat.le_of_ble_eq_true rfl) ⟨rfl, Or.inr ⟨rfl, ⟨k, hk, rfl⟩, hx⟩⟩
  obtain ⟨j, hj, rfl, hl7, rfl, rfl⟩ := h
  refine v_callVl C (st := []) [.ref (ad 4 k), .ref (ad 6 j)] (c_X4_costOfTaking l S ad q k j hA hV hB hk hj) ml_RX4_141 mi_yX4_costOfTaking hA.k0 (by decide) (by decide +kernel) rfl (Nat.le_of_ble_eq_true rfl) (Nat.le_of_ble_eq_true rfl) (Nat.le_of_ble_eq_true rfl) (Nat.le_of_ble_eq_true rfl) (Nat.le_of_ble_eq_true rfl) dX4_canTake_13 (fun r u h => ?_) _ rfl
  obtain ⟨rfl, rfl⟩ := h
  refine v_ldc2 C kl_RX4_145 dX4_canTake_16 ?_
  refine v_lcmp C dX4_canTake_19 ?_
  refine v_if_eq C 27 (by decide) dX4_canTake_20 (fun c20 => ?_) (fun c20 => ?_)
  · refine v_iconst C 0 (by decide) dX4_canTake_27 ?_
    exact v_xzret C rfl hRT (Nat.le_of_ble_eq_true rfl) (Nat.le_of_ble_eq_true rfl) dX4_canTake_28 ⟨_, rfl, k, hk, rfl, j, hj, rfl, hl7, rfl, bI0 (by rw [cm_m1 (ctk_b q hB hk hj) c20]; decide)⟩
  · refine v_iconst C 1 (by decide) dX4_canTake_23 ?_
    refine v_goto C 28 (by decide) dX4_canTake_24 ?_
    exact v_xzret C rfl hRT (Nat.le_of_ble_eq_true rfl) (Nat.le_of_ble_eq_true rfl) dX4_canTake_28 ⟨_, rfl, k, hk, rfl, j, hj, rfl, hl7, rfl, bI1 (cm_p (ctk_b q hB hk hj) c20)⟩
theorem mi_y {q : AS} {j : Nat} (c : ¬ (if zz q 3 j 7 = 2 then iO (zz q 3 j 8) else -1) = -1) : zz q 3 j 7 = 2 := Classical.byContradiction fun h => by
  rw [if_neg h] at c
  exact c rfl
theorem mi_n {q : AS} {j : Nat} (hi : zz q 3 j 7 = 2 → bd (zz q 3 j 8) 0 60) (c : (if zz q 3 j 7 = 2 then iO (zz q 3 j 8) else -1) = -1) : ¬ zz q 3 j 7 = 2 := fun h => by
  have hb := hi h
  rw [if_pos h, show (-1 : Int32) = iO (-1) from rfl, iO_eq (by unfold bd at *; omega) (by unfold bd at *; omega) (by decide) (by decide)] at c
  unfold bd at hb
  omega
/-- the signs are characters -/
def SGB (q : AS) : Prop := ∀ t, t < cn q 1 → ∀ k, k < cn q (100 + t) → bd (zz q 4 t k) 0 200
set_option maxRecDepth 100000 in
set_option maxHeartbeats 4000000 in
theorem c_X4_mergedInto (l : Launch) (hlf : l.stackTraces = false) (S : HS) (ad : AD) (q : AS) (hB : BI q) (hA : XA S ad (cn q 1)) (hV : XV S ad q) (hI8 : ITO q) (i : Int32) : cX l yX4_mergedInto cX4_mergedInto 3 (Option.some Jvm.ClassFile.FieldType.int) 8 [.ref (ad 0 0), .int i] S (pI fun r u => ∃ j, j < cn q 1 ∧ i = nI j ∧ zz q 3 j 7 = 2 ∧ S = u ∧ iO (zz q 3 j 8) = r) (fun E u => S = u ∧ ((E = eIO ∧ ¬ isTk q i) ∨ (E = eNE ∧ ∃ j, j < cn q 1 ∧ i = nI j ∧ ¬ zz q 3 j 7 = 2))) 2 12 := by
  refine cX_intro (by decide +kernel) cd_X4_mergedInto (Nat.le_of_ble_eq_true rfl) ?_
  intro pP eE sS mM aA bB tT cC G A C hRT hnt
  refine V.lvs (lv2 := [(0, .ref (ad 0 0)), (1, .int i)]) rfl ?_
  refine v_aload_n C 0 rfl rfl dX4_mergedInto_0 ?_
  refine v_iload_n C 1 rfl rfl dX4_mergedInto_1 ?_
  refine v_xcallVq C (st := []) [.int i] (c_X4_trackNumbered l hlf S ad q i hA hV.v32) ml_RX4_291 mi_yX4_trackNumbered hA.k0 (by decide) (by decide +kernel) rfl (Nat.le_of_ble_eq_true rfl) (Nat.le_of_ble_eq_true rfl) (Nat.le_of_ble_eq_true rfl) (Nat.le_of_ble_eq_true rfl) (Nat.le_of_ble_eq_true rfl) dX4_mergedInto_2 (fun E u h => ?_) (fun r u h => ?_) _ rfl
  · obtain ⟨rfl, rfl, hx⟩ := h
    exact vx_end C hnt (Nat.le_of_ble_eq_true rfl) (Nat.le_of_ble_eq_true rfl) ⟨rfl, Or.inl ⟨rfl, tk_not hx⟩⟩
  obtain ⟨j, hj, rfl, rfl, rfl⟩ := h
  refine v_astore_n C [(2, .ref (ad 6 j)), (0, .ref (ad 0 0)), (1, .int (nI j))] (by decide) rfl rfl dX4_mergedInto_5 ?_
  refine v_aload_n C 0 rfl rfl dX4_mergedInto_6 ?_
  refine v_getI C (if zz q 3 j 7 = 2 then iO (zz q 3 j 8) else -1) fl_RX4_301 (hA.k6 j hj) (hV.t25 j hj) dX4_mergedInto_7 ?_
  refine v_iconst C (-1) (by decide) dX4_mergedInto_10 ?_
  refine v_icmp_ne C 25 (by decide) dX4_mergedInto_11 (fun c11 => ?_) (fun c11 => ?_)
  · refine v_aload_n C 0 rfl rfl dX4_mergedInto_25 ?_
    refine v_getI C (if zz q 3 j 7 = 2 then iO (zz q 3 j 8) else -1) fl_RX4_301 (hA.k6 j hj) (hV.t25 j hj) dX4_mergedInto_26 ?_
    exact v_xiret C hRT (Nat.le_of_ble_eq_true rfl) (Nat.le_of_ble_eq_true rfl) dX4_mergedInto_29 ⟨_, rfl, j, hj, rfl, mi_y c11, rfl, (if_pos (mi_y c11)).symm⟩
  · exact v_throwN C hlf tn_321 hnt (Nat.le_of_ble_eq_true rfl) (Nat.le_of_ble_eq_true rfl) (Nat.le_of_ble_eq_true rfl) (Nat.le_of_ble_eq_true rfl) (Nat.le_of_ble_eq_true rfl) (Nat.le_of_ble_eq_true rfl) (Nat.le_of_ble_eq_true rfl) ⟨rfl, Or.inr ⟨rfl, j, hj, rfl, mi_n (hI8 j hj) c11⟩⟩ dX4_mergedInto_14 dX4_mergedInto_17 dX4_mergedInto_18 dX4_mergedInto_21 dX4_mergedInto_24
theorem nar_ch {z : Int} (h : bd z 0 200) : vp_nar .char (iO z) = iO z := by
  obtain ⟨n, hn, rfl⟩ : ∃ n : Nat, n < 201 ∧ z = (n : Int) := ⟨z.toNat, by unfold bd at h; omega, by unfold bd at h; omega⟩
  exact (by decide +kernel : ∀ n : Nat, n < 201 → vp_nar .char (iO (n : Int)) = iO (n : Int)) n hn
theorem nar_c2 {z : Int} (h : bd z 0 200) : narrow .char (.int (iO z)) = .int (iO z) := by
  obtain ⟨n, hn, rfl⟩ : ∃ n : Nat, n < 201 ∧ z = (n : Int) := ⟨z.toNat, by unfold bd at h; omega, by unfold bd at h; omega⟩
  exact (by decide +kernel : ∀ n : Nat, n < 201 → narrow .char (.int (iO (n : Int))) = .int (iO (n : Int))) n hn
theorem ix_not {q : AS} {j : Nat} {x : Int32} (h : x < 0 ∨ nI (cn q (100 + j)) ≤ x) (hn : cn q (100 + j) ≤ 500) : ¬ ∃ k, k < cn q (100 + j) ∧ x = nI k := fun ⟨k, hk, e⟩ => by
  subst e
  rcases h with h | h
  · exact nI_pos (by omega) h
  · exact absurd (nge h (by omega)) (by omega)
set_option maxRecDepth 100000 in
set_option maxHeartbeats 4000000 in
theorem c_X4_historyAt (l : Launch) (hlf : l.stackTraces = false) (S : HS) (ad : AD) (q : AS) (hB : BI q) (hA : XA S ad (cn q 1)) (hV : XV S ad q) (hSG : SGB q) (i x : Int32) : cX l yX4_historyAt cX4_historyAt 4 (Option.some Jvm.ClassFile.FieldType.char) 8 [.ref (ad 0 0), .int i, .int x] S (pI fun r u => ∃ j, j < cn q 1 ∧ i = nI j ∧ ∃ k, k < cn q (100 + j) ∧ x = nI k ∧ S = u ∧ iO (zz q 4 j k) = r) (fun E u => S = u ∧ ((E = eIO ∧ ¬ isTk q i) ∨ (E = eNE ∧ ∃ j, j < cn q 1 ∧ i = nI j ∧ ¬ ∃ k, k < cn q (100 + j) ∧ x = nI k))) 2 12 := by
  refine cX_intro (by decide +kernel) cd_X4_historyAt (Nat.le_of_ble_eq_true rfl) ?_
  intro pP eE sS mM aA bB tT cC G A C hRT hnt
  refine V.lvs (lv2 := [(0, .ref (ad 0 0)), (1, .int i), (2, .int x)]) rfl ?_
  refine v_aload_n C 0 rfl rfl dX4_historyAt_0 ?_
  refine v_iload_n C 1 rfl rfl dX4_historyAt_1 ?_
  refine v_xcallVq C (st := []) [.int i] (c_X4_trackNumbered l hlf S ad q i hA hV.v32) ml_RX4_291 mi_yX4_trackNumbered hA.k0 (by decide) (by decide +kernel) rfl (Nat.le_of_ble_eq_true rfl) (Nat.le_of_ble_eq_true rfl) (Nat.le_of_ble_eq_true rfl) (Nat.le_of_ble_eq_true rfl) (Nat.le_of_ble_eq_true rfl) dX4_historyAt_2 (fun E u h => ?_) (fun r u h => ?_) _ rfl
  · obtain ⟨rfl, rfl, hx⟩ := h
    exact vx_end C hnt (Nat.le_of_ble_eq_true rfl) (Nat.le_of_ble_eq_true rfl) ⟨rfl, Or.inl ⟨rfl, tk_not hx⟩⟩
  obtain ⟨j, hj, rfl, rfl, rfl⟩ := h
  refine v_astore_n C [(3, .ref (ad 6 j)), (0, .ref (ad 0 0)), (1, .int (nI j)), (2, .int x)] (by decide) rfl rfl dX4_historyAt_5 ?_
  refine v_iload_n C 3 rfl rfl dX4_historyAt_6 ?_
  refine v_if_lt C 27 (by decide) dX4_historyAt_7 (fun c7 => ?_) (fun c7 => ?_)
  · exact v_throwN C hlf tn_331 hnt (Nat.le_of_ble_eq_true rfl) (Nat.le_of_ble_eq_true rfl) (Nat.le_of_ble_eq_true rfl) (Nat.le_of_ble_eq_true rfl) (Nat.le_of_ble_eq_true rfl) (Nat.le_of_ble_eq_true rfl) (Nat.le_of_ble_eq_true rfl) ⟨rfl, Or.inr ⟨rfl, j, hj, rfl, ix_not (Or.inl c7) (hB.bh j hj).1⟩⟩ dX4_historyAt_27 dX4_historyAt_30 dX4_historyAt_31 dX4_historyAt_34 dX4_historyAt_37
  · refine v_iload_n C 3 rfl rfl dX4_historyAt_10 ?_
    refine v_aload_n C 0 rfl rfl dX4_historyAt_11 ?_
    refine v_getI C (nI (cn q (100 + j))) fl_RX4_324 (hA.k6 j hj) (hV.t27 j hj) dX4_historyAt_12 ?_
    refine v_icmp_ge C 27 (by decide) dX4_historyAt_15 (fun c15 => ?_) (fun c15 => ?_)
    · exact v_throwN C hlf tn_331 hnt (Nat.le_of_ble_eq_true rfl) (Nat.le_of_ble_eq_true rfl) (Nat.le_of_ble_eq_true rfl) (Nat.le_of_ble_eq_true rfl) (Nat.le_of_ble_eq_true rfl) (Nat.le_of_ble_eq_true rfl) (Nat.le_of_ble_eq_true rfl) ⟨rfl, Or.inr ⟨rfl, j, hj, rfl, ix_not (Or.inr c15) (hB.bh j hj).1⟩⟩ dX4_historyAt_27 dX4_historyAt_30 dX4_historyAt_31 dX4_historyAt_34 dX4_historyAt_37
    · obtain ⟨k, hk, rfl⟩ := ixI2 (n := cn q (100 + j)) c7 c15 (by have := (hB.bh j hj).1; omega)
      have hk5 := (hB.bh j hj).1
      refine v_iload_n C 3 rfl rfl dX4_historyAt_18 ?_
      refine v_aload_n C 0 rfl rfl dX4_historyAt_19 ?_
      refine v_getR C (ad 7 j) fl_RX4_327 (hA.k6 j hj) (hA.r26 j hj) dX4_historyAt_20 ?_
      refine v_alen C 512 (kle (hA.k7 j hj) (by decide)) (kge (hA.k7 j hj) (by decide)) (by rw [hA.n7 j hj]; rfl) dX4_historyAt_23 ?_
      refine v_icmp_lt C 38 (by decide) dX4_historyAt_24 (fun c24 => ?_) (fun q => (q (nI_lt (a := k) (b := 512) (by omega) (by decide))).elim)
      refine v_aload_n C 0 rfl rfl dX4_historyAt_38 ?_
      refine v_getR C (ad 7 j) fl_RX4_327 (hA.k6 j hj) (hA.r26 j hj) dX4_historyAt_39 ?_
      refine v_iload_n C 3 rfl rfl dX4_historyAt_42 ?_
      refine v_cald C (iO (zz q 4 j k)) (hA.k7 j hj) (by rw [hA.n7 j hj]; exact vp_in_nI (by omega) (by decide)) ((congrArg _ (nI_clamp (by omega))).trans (hV.sg j hj k hk)) dX4_historyAt_43 ?_
      exact v_xzret C (nar_c2 (hSG j hj k hk)) hRT (Nat.le_of_ble_eq_true rfl) (Nat.le_of_ble_eq_true rfl) dX4_historyAt_44 ⟨_, rfl, j, hj, rfl, k, hk, rfl, rfl, rfl⟩
def farA (q : AS) (i : Nat) (t x y : Int) : Int := (16 * x - ahd q i t 0) * (16 * x - ahd q i t 0) + (16 * y - ahd q i t 1) * (16 * y - ahd q i t 1)
def nst (q : AS) (t x y : Int) : Nat → Option Nat
  | 0 => none
  | i + 1 => if liveP q i = true ∧ (∀ b, nst q t x y i = some b → farA q i t x y < farA q b t x y) then some i else nst q t x y i
def bsO (o : Option Nat) : Int32 := match o with
  | none => -1
  | some b => nI b
def lsO (q : AS) (t x y : Int) (o : Option Nat) : Int64 := match o with
  | none => 0
  | some b => lO (farA q b t x y)
theorem nst_lt (q : AS) (t x y : Int) : ∀ n b, nst q t x y n = some b → b < n ∧ liveP q b = true
  | n + 1, b, h => by
    by_cases c : liveP q n = true ∧ (∀ b, nst q t x y n = some b → farA q n t x y < farA q b t x y)
    · have e : nst q t x y (n + 1) = some n := if_pos c
      rw [e] at h
      cases h
      exact ⟨Nat.lt_succ_self _, c.1⟩
    · have e : nst q t x y (n + 1) = nst q t x y n := if_neg c
      rw [e] at h
      have := nst_lt q t x y n b h
      exact ⟨by omega, this.2⟩
theorem nst_none (q : AS) (t x y : Int) : ∀ n, nst q t x y n = none ↔ ∀ b, b < n → liveP q b = false
  | 0 => ⟨fun _ b hb => absurd hb (Nat.not_lt_zero b), fun _ => rfl⟩
  | n + 1 => by
    by_cases c : liveP q n = true ∧ (∀ b, nst q t x y n = some b → farA q n t x y < farA q b t x y)
    · have e : nst q t x y (n + 1) = some n := if_pos c
      rw [e]
      exact ⟨fun z => (by cases z), fun z => by rw [z n (Nat.lt_succ_self n)] at c; exact absurd c.1 (by decide)⟩
    · have e : nst q t x y (n + 1) = nst q t x y n := if_neg c
      rw [e, nst_none q t x y n]
      refine ⟨fun z b hb => ?_, fun z b hb => z b (by omega)⟩
      by_cases hbn : b = n
      · subst hbn
        cases h : liveP q b with
        | false => rfl
        | true => exact absurd ⟨h, fun b' hb' => by have := (nst_none q t x y b).mpr z; rw [this] at hb'; cases hb'⟩ c
      · exact z b (by omega)
theorem pl_bd {x : Int32} (h : isPl x) : bd x.toInt (-999) 999 := by
  have := isIn_bd (lo := -999) (hi := 999) h
  exact this
theorem cor_bd {q : AS} (hB : BI q) {i : Nat} (hi : i < cn q 1) {t x : Int32} (ht : isAk t) (hx : isPl x) (ax : Nat) (hax : ax < 2) : bd (16 * x.toInt - ahd q i t.toInt ax) (-200000000) 200000000 := by
  have h1 := ahd_bd hB hi (time := t.toInt) (by have := ak_bd ht; unfold bd at *; omega) ax hax
  have h2 := pl_bd hx
  unfold bd at *
  omega
theorem far_bd {q : AS} (hB : BI q) {i : Nat} (hi : i < cn q 1) {t x y : Int32} (ht : isAk t) (hx : isPl x) (hy : isPl y) : bd (farA q i t.toInt x.toInt y.toInt) 0 80000000000000000 := by
  have h1 := sq_bd (cor_bd hB hi ht hx 0 (by decide))
  have h2 := sq_bd (cor_bd hB hi ht hy 1 (by decide))
  unfold farA
  unfold bd at *
  omega
theorem bs_n {o : Option Nat} (hb : ∀ b, o = some b → b < 60) (c : bsO o = -1) : o = none := by
  cases o with
  | none => rfl
  | some b =>
    have := hb b rfl
    have c2 : nI b = -1 := c
    rw [nI_iO, show (-1 : Int32) = iO (-1) from rfl, iO_eq (by omega) (by omega) (by decide) (by decide)] at c2
    omega
theorem bs_s {o : Option Nat} (c : ¬ bsO o = -1) : ∃ b, o = some b := by
  cases o with
  | none => exact absurd rfl c
  | some b => exact ⟨b, rfl⟩
theorem nst_y {q : AS} {t x y : Int} {i : Nat} (h : liveP q i = true ∧ (∀ b, nst q t x y i = some b → farA q i t x y < farA q b t x y)) : nst q t x y (i + 1) = some i := if_pos h
theorem nst_k {q : AS} {t x y : Int} {i : Nat} (h : ¬ (liveP q i = true ∧ (∀ b, nst q t x y i = some b → farA q i t x y < farA q b t x y))) : nst q t x y (i + 1) = nst q t x y i := if_neg h
theorem cor_O {q : AS} {i : Nat} {t x : Int32} {ax : Nat} : 16 * x - iO (ahd q i t.toInt ax) = iO (16 * x.toInt - ahd q i t.toInt ax) := by
  rw [← iO_sub, ← iO_mul, iO_of]
  rfl
set_option maxRecDepth 100000 in
set_option maxHeartbeats 4000000 in
theorem lp_X4_nearest {l : Launch} {pP : Program} {eE : Env} {sS : State} {mM : MethodId} {aA : Array Value} {bB : List Frame} {tT : Method} {cC : Code} {G : GT} {A : Nat → Prop} {Q : State → Prop}  (S : HS) (ad : AD) (q : AS) (hB : BI q) (hA : XA S ad (cn q 1)) (hV : XV S ad q) (t x y : Int32) (ht : isAk t) (hx : isPl x) (hy : isPl y) (k0 n0 : Nat) (hk0 : k0 ≤ 2) (hn0 : n0 ≤ 12)  (C : Cx pP l eE (rmD 12 2 12) sS mM aA bB tT cC cX4_nearest 11 RX4 G A) (kk : V pP l eE (rmD 12 2 12) sS mM aA bB tT cC 11 G A S k0 n0 Q 115 [(0, .ref (ad 0 0)), (1, .int t), (2, .int x), (3, .int y), (4, .int (bsO (nst q t.toInt x.toInt y.toInt (cn q 1)))), (5, .long (lsO q t.toInt x.toInt y.toInt (nst q t.toInt x.toInt y.toInt (cn q 1)))), (7, .int (nI (cn q 1)))] []) : ∀ (N : Nat) (i : Nat), (hN9 : cn q 1 + 1 ≤ i + N) → (hi : i ≤ cn q 1) → V pP l eE (rmD 12 2 12) sS mM aA bB tT cC 11 G A S k0 n0 Q 38 [(0, .ref (ad 0 0)), (1, .int t), (2, .int x), (3, .int y), (4, .int (bsO (nst q t.toInt x.toInt y.toInt i))), (5, .long (lsO q t.toInt x.toInt y.toInt (nst q t.toInt x.toInt y.toInt i))), (7, .int (nI i))] [] := by
  intro N
  induction N with
  | zero =>
    intro i hN9 hi
    exact absurd hN9 (by omega)
  | succ N ih =>
    intro i hN9 hi
    have hn6 := hA.hn
    have hb60 : ∀ b, nst q t.toInt x.toInt y.toInt i = some b → b < 60 := fun b hb => by have := (nst_lt _ _ _ _ _ _ hb).1; omega
    refine v_iload C 6 rfl dX4_nearest_38 ?_
    refine v_aload_n C 0 rfl rfl dX4_nearest_40 ?_
    refine v_getI C (nI (cn q 1)) fl_RX4_184 hA.k0 hV.v32 dX4_nearest_41 ?_
    refine v_icmp_ge C 115 (by decide) dX4_nearest_44 (fun c44 => ?_) (fun c44 => ?_)
    · obtain rfl : i = cn q 1 := by have := nge c44 (by omega); omega
      exact V.sub [0, 1, 2, 3, 4, 5, 6] rfl kk
    · have hlt : i < cn q 1 := nlt c44 (by omega)
      by_cases hc : zz q 3 i 7 = 0
      · have hv9 : hI S 24 (ad 6 i) = 1 := by rw [hV.t24 i hlt]; exact bI1 hc
        refine v_aload_n C 0 rfl rfl dX4_nearest_47 ?_
        refine v_iload C 6 rfl dX4_nearest_48 ?_
        refine v_callVq C (st := []) [.int (nI i)] (c_X4_liveTrackAt_y l S ad (cn q 1) i hA hlt hv9) ml_RX4_187 mi_yX4_liveTrackAt hA.k0 (by decide) (by decide +kernel) rfl (Nat.le_of_ble_eq_true rfl) (Nat.le_of_ble_eq_true rfl) (Nat.le_of_ble_eq_true rfl) (by show k0 + 0 ≤ 2; omega) (by show n0 + 0 ≤ 12; omega) dX4_nearest_50 (fun r u h => ?_) _ rfl
        obtain ⟨rfl, rfl⟩ := h
        refine v_astore C [(8, .ref (ad 6 i)), (0, .ref (ad 0 0)), (1, .int t), (2, .int x), (3, .int y), (4, .int (bsO (nst q t.toInt x.toInt y.toInt i))), (5, .long (lsO q t.toInt x.toInt y.toInt (nst q t.toInt x.toInt y.toInt i))), (7, .int (nI i))] (by decide) rfl dX4_nearest_53 ?_
        refine v_aload C 0 rfl dX4_nearest_55 ?_
        refine v_ifnull C dX4_nearest_57 ?_
        refine v_bipush C 16 (by decide) dX4_nearest_60 ?_
        refine v_iload_n C 3 rfl rfl dX4_nearest_62 ?_
        refine v_imul C dX4_nearest_63 ?_
        refine v_aload C 0 rfl dX4_nearest_64 ?_
        refine v_iload_n C 2 rfl rfl dX4_nearest_66 ?_
        refine v_callVi C (st := [.int (16 * x)]) [.int t] (c_X3_xAt l S (ad 6 i) t (hA.k6 i hlt)) ml_RX4_272 mi_yX3_xAt (hA.k6 i hlt) (by decide) (by decide +kernel) rfl (Nat.le_of_ble_eq_true rfl) (Nat.le_of_ble_eq_true rfl) (Nat.le_of_ble_eq_true rfl) (by show k0 + 0 ≤ 2; omega) (by show n0 + 0 ≤ 12; omega) dX4_nearest_67 (fun r u h => ?_) _ rfl
        obtain ⟨rfl, rfl⟩ := h
        rw [xAt_t hV hlt]
        refine v_isub C dX4_nearest_70 ?_
        rw [cor_O]
        refine v_bipush C 16 (by decide) dX4_nearest_71 ?_
        refine v_iload_n C 4 rfl rfl dX4_nearest_73 ?_
        refine v_imul C dX4_nearest_74 ?_
        refine v_aload C 0 rfl dX4_nearest_75 ?_
        refine v_iload_n C 2 rfl rfl dX4_nearest_77 ?_
        refine v_callVi C (st := [.int (16 * y), .int (iO (16 * x.toInt - ahd q i t.toInt 0))]) [.int t] (c_X3_yAt l S (ad 6 i) t (hA.k6 i hlt)) ml_RX4_275 mi_yX3_yAt (hA.k6 i hlt) (by decide) (by decide +kernel) rfl (Nat.le_of_ble_eq_true rfl) (Nat.le_of_ble_eq_true rfl) (Nat.le_of_ble_eq_true rfl) (by show k0 + 0 ≤ 2; omega) (by show n0 + 0 ≤ 12; omega) dX4_nearest_78 (fun r u h => ?_) _ rfl
        obtain ⟨rfl, rfl⟩ := h
        rw [yAt_t hV hlt]
        refine v_isub C dX4_nearest_81 ?_
        rw [cor_O]
        refine v_callSl C (st := []) [.int (iO (16 * x.toInt - ahd q i t.toInt 0)), .int (iO (16 * y.toInt - ahd q i t.toInt 1))] (c_X4_squareSum l S (iO (16 * x.toInt - ahd q i t.toInt 0)) (iO (16 * y.toInt - ahd q i t.toInt 1))) ml_RX4_278 ms_yX4_squareSum rfl (Nat.le_of_ble_eq_true rfl) (Nat.le_of_ble_eq_true rfl) (Nat.le_of_ble_eq_true rfl) (by show k0 + 0 ≤ 2; omega) (by show n0 + 0 ≤ 12; omega) dX4_nearest_82 (fun r u h => ?_) _ rfl
        obtain ⟨rfl, rfl⟩ := h
        rw [show ((iO (16 * x.toInt - ahd q i t.toInt 0)).toInt64 * (iO (16 * x.toInt - ahd q i t.toInt 0)).toInt64 + (iO (16 * y.toInt - ahd q i t.toInt 1)).toInt64 * (iO (16 * y.toInt - ahd q i t.toInt 1)).toInt64) = lO (farA q i t.toInt x.toInt y.toInt) from sqF_O (cor_bd hB hlt ht hx 0 (by decide)) (cor_bd hB hlt ht hy 1 (by decide))]
        refine v_lstore C [(9, .long (lO (farA q i t.toInt x.toInt y.toInt))), (8, .ref (ad 6 i)), (0, .ref (ad 0 0)), (1, .int t), (2, .int x), (3, .int y), (4, .int (bsO (nst q t.toInt x.toInt y.toInt i))), (5, .long (lsO q t.toInt x.toInt y.toInt (nst q t.toInt x.toInt y.toInt i))), (7, .int (nI i))] (by decide) rfl dX4_nearest_85 ?_
        refine v_iload C 6 rfl dX4_nearest_87 ?_
        refine v_iconst C (-1) (by decide) dX4_nearest_89 ?_
        refine v_icmp_eq C 101 (by decide) dX4_nearest_90 (fun c90 => ?_) (fun c90 => ?_)
        · refine v_iload C 8 rfl dX4_nearest_101 ?_
          refine v_istore C [(4, .int (nI i)), (9, .long (lO (farA q i t.toInt x.toInt y.toInt))), (8, .ref (ad 6 i)), (0, .ref (ad 0 0)), (1, .int t), (2, .int x), (3, .int y), (5, .long (lsO q t.toInt x.toInt y.toInt (nst q t.toInt x.toInt y.toInt i))), (7, .int (nI i))] (by decide) rfl dX4_nearest_103 ?_
          refine v_lload C 1 rfl dX4_nearest_105 ?_
          refine v_lstore C [(5, .long (lO (farA q i t.toInt x.toInt y.toInt))), (4, .int (nI i)), (9, .long (lO (farA q i t.toInt x.toInt y.toInt))), (8, .ref (ad 6 i)), (0, .ref (ad 0 0)), (1, .int t), (2, .int x), (3, .int y), (7, .int (nI i))] (by decide) rfl dX4_nearest_107 ?_
          refine v_iinc C (nI (i + 1)) 8 [(7, .int (nI (i + 1))), (5, .long (lO (farA q i t.toInt x.toInt y.toInt))), (4, .int (nI i)), (9, .long (lO (farA q i t.toInt x.toInt y.toInt))), (8, .ref (ad 6 i)), (0, .ref (ad 0 0)), (1, .int t), (2, .int x), (3, .int y)] rfl (by rw [← nI_1]; rfl) (by decide) rfl dX4_nearest_109 ?_
          refine v_goto C 38 (by decide) dX4_nearest_112 ?_
          have e9 := bs_n hb60 c90
          have ef := nst_y (q := q) (t := t.toInt) (x := x.toInt) (y := y.toInt) (i := i) ⟨decide_eq_true hc, fun b hb => by rw [e9] at hb; cases hb⟩
          refine V.sub [5, 6, 7, 8, 2, 1, 0] rfl ?_
          have key := ih (i + 1) (by omega) hlt
          rw [ef] at key
          exact key
        · refine v_lload C 0 rfl dX4_nearest_93 ?_
          refine v_lload C 7 rfl dX4_nearest_95 ?_
          refine v_lcmp C dX4_nearest_97 ?_
          refine v_if_ge C 109 (by decide) dX4_nearest_98 (fun c98 => ?_) (fun c98 => ?_)
          · refine v_iinc C (nI (i + 1)) 8 [(7, .int (nI (i + 1))), (9, .long (lO (farA q i t.toInt x.toInt y.toInt))), (8, .ref (ad 6 i)), (0, .ref (ad 0 0)), (1, .int t), (2, .int x), (3, .int y), (4, .int (bsO (nst q t.toInt x.toInt y.toInt i))), (5, .long (lsO q t.toInt x.toInt y.toInt (nst q t.toInt x.toInt y.toInt i)))] rfl (by rw [← nI_1]; rfl) (by decide) rfl dX4_nearest_109 ?_
            refine v_goto C 38 (by decide) dX4_nearest_112 ?_
            obtain ⟨b9, e9⟩ := bs_s c90
            have hb9 := nst_lt q t.toInt x.toInt y.toInt i b9 e9
            have f1 := far_bd hB hlt ht hx hy
            have f2 := far_bd hB (show b9 < cn q 1 by omega) ht hx hy
            rw [e9] at c98
            have c9 : 0 ≤ lg_cmp (lO (farA q i t.toInt x.toInt y.toInt)) (lO (farA q b9 t.toInt x.toInt y.toInt)) := c98
            have hlo := lO_le (a := farA q b9 t.toInt x.toInt y.toInt) (b := farA q i t.toInt x.toInt y.toInt) (by unfold bd at *; omega) (by unfold bd at *; omega) (by unfold bd at *; omega) (by unfold bd at *; omega)
            have hle := hlo.mp ((lg_cmp_ge _ _).mp c9)
            have ef := nst_k (q := q) (t := t.toInt) (x := x.toInt) (y := y.toInt) (i := i) (fun z => absurd (z.2 b9 e9) (by omega))
            refine V.sub [3, 4, 5, 6, 7, 8, 0] rfl ?_
            have key := ih (i + 1) (by omega) hlt
            rw [ef] at key
            exact key
          · refine v_iload C 8 rfl dX4_nearest_101 ?_
            refine v_istore C [(4, .int (nI i)), (9, .long (lO (farA q i t.toInt x.toInt y.toInt))), (8, .ref (ad 6 i)), (0, .ref (ad 0 0)), (1, .int t), (2, .int x), (3, .int y), (5, .long (lsO q t.toInt x.toInt y.toInt (nst q t.toInt x.toInt y.toInt i))), (7, .int (nI i))] (by decide) rfl dX4_nearest_103 ?_
            refine v_lload C 1 rfl dX4_nearest_105 ?_
            refine v_lstore C [(5, .long (lO (farA q i t.toInt x.toInt y.toInt))), (4, .int (nI i)), (9, .long (lO (farA q i t.toInt x.toInt y.toInt))), (8, .ref (ad 6 i)), (0, .ref (ad 0 0)), (1, .int t), (2, .int x), (3, .int y), (7, .int (nI i))] (by decide) rfl dX4_nearest_107 ?_
            refine v_iinc C (nI (i + 1)) 8 [(7, .int (nI (i + 1))), (5, .long (lO (farA q i t.toInt x.toInt y.toInt))), (4, .int (nI i)), (9, .long (lO (farA q i t.toInt x.toInt y.toInt))), (8, .ref (ad 6 i)), (0, .ref (ad 0 0)), (1, .int t), (2, .int x), (3, .int y)] rfl (by rw [← nI_1]; rfl) (by decide) rfl dX4_nearest_109 ?_
            refine v_goto C 38 (by decide) dX4_nearest_112 ?_
            obtain ⟨b9, e9⟩ := bs_s c90
            have hb9 := nst_lt q t.toInt x.toInt y.toInt i b9 e9
            have f1 := far_bd hB hlt ht hx hy
            have f2 := far_bd hB (show b9 < cn q 1 by omega) ht hx hy
            rw [e9] at c98
            have c9 : ¬ 0 ≤ lg_cmp (lO (farA q i t.toInt x.toInt y.toInt)) (lO (farA q b9 t.toInt x.toInt y.toInt)) := c98
            have hlo := lO_le (a := farA q b9 t.toInt x.toInt y.toInt) (b := farA q i t.toInt x.toInt y.toInt) (by unfold bd at *; omega) (by unfold bd at *; omega) (by unfold bd at *; omega) (by unfold bd at *; omega)
            have hlt9 : farA q i t.toInt x.toInt y.toInt < farA q b9 t.toInt x.toInt y.toInt := by rcases Int.lt_or_le (farA q i t.toInt x.toInt y.toInt) (farA q b9 t.toInt x.toInt y.toInt) with z | z; exact z; exact absurd ((lg_cmp_ge _ _).mpr (hlo.mpr z)) c9
            have ef := nst_y (q := q) (t := t.toInt) (x := x.toInt) (y := y.toInt) (i := i) ⟨decide_eq_true hc, fun b hb => by rw [e9] at hb; cases hb; exact hlt9⟩
            refine V.sub [5, 6, 7, 8, 2, 1, 0] rfl ?_
            have key := ih (i + 1) (by omega) hlt
            rw [ef] at key
            exact key
      · have hv9 : hI S 24 (ad 6 i) = 0 := by rw [hV.t24 i hlt]; exact bI0 hc
        refine v_aload_n C 0 rfl rfl dX4_nearest_47 ?_
        refine v_iload C 6 rfl dX4_nearest_48 ?_
        refine v_callVq C (st := []) [.int (nI i)] (c_X4_liveTrackAt_d l S ad (cn q 1) i hA hlt hv9) ml_RX4_187 mi_yX4_liveTrackAt hA.k0 (by decide) (by decide +kernel) rfl (Nat.le_of_ble_eq_true rfl) (Nat.le_of_ble_eq_true rfl) (Nat.le_of_ble_eq_true rfl) (by show k0 + 0 ≤ 2; omega) (by show n0 + 0 ≤ 12; omega) dX4_nearest_50 (fun r u h => ?_) _ rfl
        obtain ⟨rfl, rfl⟩ := h
        refine v_astoreN C [(8, .null), (0, .ref (ad 0 0)), (1, .int t), (2, .int x), (3, .int y), (4, .int (bsO (nst q t.toInt x.toInt y.toInt i))), (5, .long (lsO q t.toInt x.toInt y.toInt (nst q t.toInt x.toInt y.toInt i))), (7, .int (nI i))] (by decide) rfl dX4_nearest_53 ?_
        refine v_aloadN C 0 rfl dX4_nearest_55 ?_
        refine v_ifnullN C 109 (by decide) dX4_nearest_57 ?_
        refine v_iinc C (nI (i + 1)) 7 [(7, .int (nI (i + 1))), (8, .null), (0, .ref (ad 0 0)), (1, .int t), (2, .int x), (3, .int y), (4, .int (bsO (nst q t.toInt x.toInt y.toInt i))), (5, .long (lsO q t.toInt x.toInt y.toInt (nst q t.toInt x.toInt y.toInt i)))] rfl (by rw [← nI_1]; rfl) (by decide) rfl dX4_nearest_109 ?_
        refine v_goto C 38 (by decide) dX4_nearest_112 ?_
        have ef := nst_k (q := q) (t := t.toInt) (x := x.toInt) (y := y.toInt) (i := i) (fun z => hc (of_decide_eq_true z.1))
        refine V.sub [2, 3, 4, 5, 6, 7, 0] rfl ?_
        have key := ih (i + 1) (by omega) hlt
        rw [ef] at key
        exact key
