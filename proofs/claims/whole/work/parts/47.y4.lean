set_option maxRecDepth 100000 in
set_option maxHeartbeats 4000000 in
theorem c_X5_isThere (l : Launch) (S : HS) (am : AM) (q : AS) (hA : NA S am (cn q 1)) (hV : NV S am q) (i : Int32) : cM l yX5_isThere cX5_isThere 2 (Option.some Jvm.ClassFile.FieldType.boolean) 6 [.ref (am 0), .int i] S (pI fun r u => (isTk q i ∧ (sI S 61 (am 0) 0) = u ∧ 1 = r) ∨ (¬ isTk q i ∧ (sI S 61 (am 0) 1) = u ∧ 0 = r)) 0 0 := by
  refine cM_intro (by decide +kernel) cd_X5_isThere (Nat.le_of_ble_eq_true rfl) ?_
  intro pP eE sS mM aA bB tT cC G A C hRT hin
  refine V.lvs (lv2 := [(0, .ref (am 0)), (1, .int i)]) rfl ?_
  refine v_aload_n C 0 rfl rfl dX5_isThere_0 ?_
  refine v_aload_n C 0 rfl rfl dX5_isThere_1 ?_
  refine v_iload_n C 1 rfl rfl dX5_isThere_2 ?_
  refine v_callVi C (st := [.ref (am 0)]) [.int i] (c_X5_isTrack l S am q i hA ((hV).v44)) ml_RX5_199 mi_yX5_isTrack hA.k0 (by decide) (by decide +kernel) rfl (Nat.le_of_ble_eq_true rfl) (Nat.le_of_ble_eq_true rfl) (Nat.le_of_ble_eq_true rfl) (Nat.le_of_ble_eq_true rfl) (Nat.le_of_ble_eq_true rfl) dX5_isThere_3 (fun r u h => ?_) _ rfl
  obtain ⟨rfl, rfl⟩ := h
  refine v_if_eq C 13 (by decide) dX5_isThere_6 (fun c6 => ?_) (fun c6 => ?_)
  · refine v_iconst C 1 (by decide) dX5_isThere_13 ?_
    refine v_putI C fl_RX5_62 hA.k0 rfl rfl dX5_isThere_14 ?_
    refine v_aload_n C 0 rfl rfl dX5_isThere_17 ?_
    refine v_getI C 1 fl_RX5_62 hA.k0 hI_sI1 dX5_isThere_18 ?_
    refine v_if_ne C 28 (by decide) dX5_isThere_21 (fun _ => ?_) (fun q => absurd q (by decide))
    refine v_iconst C 0 (by decide) dX5_isThere_28 ?_
    exact v_zret C rfl hRT (Nat.le_of_ble_eq_true rfl) (Nat.le_of_ble_eq_true rfl) dX5_isThere_29 ⟨_, rfl, Or.inr ⟨(bI_e0 c6 : ¬ (¬ i < 0 ∧ ¬ nI (cn q 1) ≤ i)), rfl, rfl⟩⟩
  · refine v_iconst C 0 (by decide) dX5_isThere_9 ?_
    refine v_goto C 14 (by decide) dX5_isThere_10 ?_
    refine v_putI C fl_RX5_62 hA.k0 rfl rfl dX5_isThere_14 ?_
    refine v_aload_n C 0 rfl rfl dX5_isThere_17 ?_
    refine v_getI C 0 fl_RX5_62 hA.k0 hI_sI1 dX5_isThere_18 ?_
    refine v_if_ne C 28 (by decide) dX5_isThere_21 (fun q => absurd (by decide) q) (fun _ => ?_)
    refine v_iconst C 1 (by decide) dX5_isThere_24 ?_
    refine v_goto C 29 (by decide) dX5_isThere_25 ?_
    exact v_zret C rfl hRT (Nat.le_of_ble_eq_true rfl) (Nat.le_of_ble_eq_true rfl) dX5_isThere_29 ⟨_, rfl, Or.inl ⟨(bI_n0 c6 : ¬ i < 0 ∧ ¬ nI (cn q 1) ≤ i), rfl, rfl⟩⟩
set_option maxRecDepth 100000 in
set_option maxHeartbeats 4000000 in
theorem c_X5_timeOf (l : Launch) (S : HS) (am : AM) (q : AS) (hA : NA S am (cn q 1)) (hV : NV S am q) (i : Int32) : cM l yX5_timeOf cX5_timeOf 2 (Option.some Jvm.ClassFile.FieldType.int) 10 [.ref (am 0), .int i] S (pI fun r u => (∃ j, j < cn q 1 ∧ i = nI j ∧ FrN S u am ∧ hI u 61 (am 0) = 0 ∧ iO (zz q 3 j 0) = r) ∨ (¬ isTk q i ∧ FrN S u am ∧ hI u 61 (am 0) = 1)) 0 0 := by
  refine cM_intro (by decide +kernel) cd_X5_timeOf (Nat.le_of_ble_eq_true rfl) ?_
  intro pP eE sS mM aA bB tT cC G A C hRT hin
  refine V.lvs (lv2 := [(0, .ref (am 0)), (1, .int i)]) rfl ?_
  refine v_aload_n C 0 rfl rfl dX5_timeOf_0 ?_
  refine v_iload_n C 1 rfl rfl dX5_timeOf_1 ?_
  refine v_callVi C (st := []) [.int i] (c_X5_isThere l S am q hA hV i) ml_RX5_207 mi_yX5_isThere hA.k0 (by decide) (by decide +kernel) rfl (Nat.le_of_ble_eq_true rfl) (Nat.le_of_ble_eq_true rfl) (Nat.le_of_ble_eq_true rfl) (Nat.le_of_ble_eq_true rfl) (Nat.le_of_ble_eq_true rfl) dX5_timeOf_2 (fun r u h => ?_) _ rfl
  rcases h with ⟨hi, rfl, rfl⟩ | ⟨hi, rfl, rfl⟩
  · obtain ⟨j, hj, rfl⟩ := ixI2 hi.1 hi.2 (by have := hA.hn; omega)
    have hA1 : NA (sI S 61 (am 0) 0) am (cn q 1) := FrN.I.toA hA
    have hV1 : NV (sI S 61 (am 0) 0) am q := FrN.I.toV hA hV
    refine v_if_eq C 17 (by decide) dX5_timeOf_5 (fun q => absurd q (by decide)) (fun _ => ?_)
    refine v_aload_n C 0 rfl rfl dX5_timeOf_8 ?_
    refine v_iload_n C 1 rfl rfl dX5_timeOf_9 ?_
    refine v_iconst C 0 (by decide) dX5_timeOf_10 ?_
    refine v_callVi C (st := []) [.int (nI j), .int 0] (c_X5_of l (sI S 61 (am 0) 0) am (cn q 1) j 0 (by have := (hA1).hn; omega) (by omega) hA1) ml_RX5_74 mi_yX5_of hA.k0 (by decide) (by decide +kernel) rfl (Nat.le_of_ble_eq_true rfl) (Nat.le_of_ble_eq_true rfl) (Nat.le_of_ble_eq_true rfl) (Nat.le_of_ble_eq_true rfl) (Nat.le_of_ble_eq_true rfl) dX5_timeOf_11 (fun r u h => ?_) _ rfl
    obtain ⟨rfl, rfl⟩ := h
    rw [(hV1).m j hj 0 (by omega)]
    refine v_goto C 18 (by decide) dX5_timeOf_14 ?_
    exact v_iret C hRT (Nat.le_of_ble_eq_true rfl) (Nat.le_of_ble_eq_true rfl) dX5_timeOf_18 ⟨_, rfl, Or.inl ⟨j, hj, rfl, FrN.I, hI_sI1, rfl⟩⟩
  · have htt := trivial
    refine v_if_eq C 17 (by decide) dX5_timeOf_5 (fun _ => ?_) (fun q => absurd (by decide) q)
    refine v_iconst C (-1) (by decide) dX5_timeOf_17 ?_
    exact v_iret C hRT (Nat.le_of_ble_eq_true rfl) (Nat.le_of_ble_eq_true rfl) dX5_timeOf_18 ⟨_, rfl, Or.inr ⟨hi, FrN.I, hI_sI1⟩⟩
set_option maxRecDepth 100000 in
set_option maxHeartbeats 4000000 in
theorem c_X5_hits (l : Launch) (S : HS) (am : AM) (q : AS) (hA : NA S am (cn q 1)) (hV : NV S am q) (i : Int32) : cM l yX5_hits cX5_hits 2 (Option.some Jvm.ClassFile.FieldType.int) 10 [.ref (am 0), .int i] S (pI fun r u => (∃ j, j < cn q 1 ∧ i = nI j ∧ FrN S u am ∧ hI u 61 (am 0) = 0 ∧ iO (zz q 3 j 5) = r) ∨ (¬ isTk q i ∧ FrN S u am ∧ hI u 61 (am 0) = 1)) 0 0 := by
  refine cM_intro (by decide +kernel) cd_X5_hits (Nat.le_of_ble_eq_true rfl) ?_
  intro pP eE sS mM aA bB tT cC G A C hRT hin
  refine V.lvs (lv2 := [(0, .ref (am 0)), (1, .int i)]) rfl ?_
  refine v_aload_n C 0 rfl rfl dX5_hits_0 ?_
  refine v_iload_n C 1 rfl rfl dX5_hits_1 ?_
  refine v_callVi C (st := []) [.int i] (c_X5_isThere l S am q hA hV i) ml_RX5_207 mi_yX5_isThere hA.k0 (by decide) (by decide +kernel) rfl (Nat.le_of_ble_eq_true rfl) (Nat.le_of_ble_eq_true rfl) (Nat.le_of_ble_eq_true rfl) (Nat.le_of_ble_eq_true rfl) (Nat.le_of_ble_eq_true rfl) dX5_hits_2 (fun r u h => ?_) _ rfl
  rcases h with ⟨hi, rfl, rfl⟩ | ⟨hi, rfl, rfl⟩
  · obtain ⟨j, hj, rfl⟩ := ixI2 hi.1 hi.2 (by have := hA.hn; omega)
    have hA1 : NA (sI S 61 (am 0) 0) am (cn q 1) := FrN.I.toA hA
    have hV1 : NV (sI S 61 (am 0) 0) am q := FrN.I.toV hA hV
    refine v_if_eq C 17 (by decide) dX5_hits_5 (fun q => absurd q (by decide)) (fun _ => ?_)
    refine v_aload_n C 0 rfl rfl dX5_hits_8 ?_
    refine v_iload_n C 1 rfl rfl dX5_hits_9 ?_
    refine v_iconst C 5 (by decide) dX5_hits_10 ?_
    refine v_callVi C (st := []) [.int (nI j), .int 5] (c_X5_of l (sI S 61 (am 0) 0) am (cn q 1) j 5 (by have := (hA1).hn; omega) (by omega) hA1) ml_RX5_74 mi_yX5_of hA.k0 (by decide) (by decide +kernel) rfl (Nat.le_of_ble_eq_true rfl) (Nat.le_of_ble_eq_true rfl) (Nat.le_of_ble_eq_true rfl) (Nat.le_of_ble_eq_true rfl) (Nat.le_of_ble_eq_true rfl) dX5_hits_11 (fun r u h => ?_) _ rfl
    obtain ⟨rfl, rfl⟩ := h
    rw [(hV1).m j hj 5 (by omega)]
    refine v_goto C 18 (by decide) dX5_hits_14 ?_
    exact v_iret C hRT (Nat.le_of_ble_eq_true rfl) (Nat.le_of_ble_eq_true rfl) dX5_hits_18 ⟨_, rfl, Or.inl ⟨j, hj, rfl, FrN.I, hI_sI1, rfl⟩⟩
  · have htt := trivial
    refine v_if_eq C 17 (by decide) dX5_hits_5 (fun _ => ?_) (fun q => absurd (by decide) q)
    refine v_iconst C (-1) (by decide) dX5_hits_17 ?_
    exact v_iret C hRT (Nat.le_of_ble_eq_true rfl) (Nat.le_of_ble_eq_true rfl) dX5_hits_18 ⟨_, rfl, Or.inr ⟨hi, FrN.I, hI_sI1⟩⟩
set_option maxRecDepth 100000 in
set_option maxHeartbeats 4000000 in
theorem c_X5_misses (l : Launch) (S : HS) (am : AM) (q : AS) (hA : NA S am (cn q 1)) (hV : NV S am q) (i : Int32) : cM l yX5_misses cX5_misses 2 (Option.some Jvm.ClassFile.FieldType.int) 10 [.ref (am 0), .int i] S (pI fun r u => (∃ j, j < cn q 1 ∧ i = nI j ∧ FrN S u am ∧ hI u 61 (am 0) = 0 ∧ iO (zz q 3 j 6) = r) ∨ (¬ isTk q i ∧ FrN S u am ∧ hI u 61 (am 0) = 1)) 0 0 := by
  refine cM_intro (by decide +kernel) cd_X5_misses (Nat.le_of_ble_eq_true rfl) ?_
  intro pP eE sS mM aA bB tT cC G A C hRT hin
  refine V.lvs (lv2 := [(0, .ref (am 0)), (1, .int i)]) rfl ?_
  refine v_aload_n C 0 rfl rfl dX5_misses_0 ?_
  refine v_iload_n C 1 rfl rfl dX5_misses_1 ?_
  refine v_callVi C (st := []) [.int i] (c_X5_isThere l S am q hA hV i) ml_RX5_207 mi_yX5_isThere hA.k0 (by decide) (by decide +kernel) rfl (Nat.le_of_ble_eq_true rfl) (Nat.le_of_ble_eq_true rfl) (Nat.le_of_ble_eq_true rfl) (Nat.le_of_ble_eq_true rfl) (Nat.le_of_ble_eq_true rfl) dX5_misses_2 (fun r u h => ?_) _ rfl
  rcases h with ⟨hi, rfl, rfl⟩ | ⟨hi, rfl, rfl⟩
  · obtain ⟨j, hj, rfl⟩ := ixI2 hi.1 hi.2 (by have := hA.hn; omega)
    have hA1 : NA (sI S 61 (am 0) 0) am (cn q 1) := FrN.I.toA hA
    have hV1 : NV (sI S 61 (am 0) 0) am q := FrN.I.toV hA hV
    refine v_if_eq C 18 (by decide) dX5_misses_5 (fun q => absurd q (by decide)) (fun _ => ?_)
    refine v_aload_n C 0 rfl rfl dX5_misses_8 ?_
    refine v_iload_n C 1 rfl rfl dX5_misses_9 ?_
    refine v_bipush C 6 (by decide) dX5_misses_10 ?_
    refine v_callVi C (st := []) [.int (nI j), .int 6] (c_X5_of l (sI S 61 (am 0) 0) am (cn q 1) j 6 (by have := (hA1).hn; omega) (by omega) hA1) ml_RX5_74 mi_yX5_of hA.k0 (by decide) (by decide +kernel) rfl (Nat.le_of_ble_eq_true rfl) (Nat.le_of_ble_eq_true rfl) (Nat.le_of_ble_eq_true rfl) (Nat.le_of_ble_eq_true rfl) (Nat.le_of_ble_eq_true rfl) dX5_misses_12 (fun r u h => ?_) _ rfl
    obtain ⟨rfl, rfl⟩ := h
    rw [(hV1).m j hj 6 (by omega)]
    refine v_goto C 19 (by decide) dX5_misses_15 ?_
    exact v_iret C hRT (Nat.le_of_ble_eq_true rfl) (Nat.le_of_ble_eq_true rfl) dX5_misses_19 ⟨_, rfl, Or.inl ⟨j, hj, rfl, FrN.I, hI_sI1, rfl⟩⟩
  · have htt := trivial
    refine v_if_eq C 18 (by decide) dX5_misses_5 (fun _ => ?_) (fun q => absurd (by decide) q)
    refine v_iconst C (-1) (by decide) dX5_misses_18 ?_
    exact v_iret C hRT (Nat.le_of_ble_eq_true rfl) (Nat.le_of_ble_eq_true rfl) dX5_misses_19 ⟨_, rfl, Or.inr ⟨hi, FrN.I, hI_sI1⟩⟩
set_option maxRecDepth 100000 in
set_option maxHeartbeats 4000000 in
theorem c_X5_historyLength (l : Launch) (S : HS) (am : AM) (q : AS) (hA : NA S am (cn q 1)) (hV : NV S am q) (i : Int32) : cM l yX5_historyLength cX5_historyLength 2 (Option.some Jvm.ClassFile.FieldType.int) 10 [.ref (am 0), .int i] S (pI fun r u => (∃ j, j < cn q 1 ∧ i = nI j ∧ FrN S u am ∧ hI u 61 (am 0) = 0 ∧ nI (cn q (100 + j)) = r) ∨ (¬ isTk q i ∧ FrN S u am ∧ hI u 61 (am 0) = 1)) 0 0 := by
  refine cM_intro (by decide +kernel) cd_X5_historyLength (Nat.le_of_ble_eq_true rfl) ?_
  intro pP eE sS mM aA bB tT cC G A C hRT hin
  refine V.lvs (lv2 := [(0, .ref (am 0)), (1, .int i)]) rfl ?_
  refine v_aload_n C 0 rfl rfl dX5_historyLength_0 ?_
  refine v_iload_n C 1 rfl rfl dX5_historyLength_1 ?_
  refine v_callVi C (st := []) [.int i] (c_X5_isThere l S am q hA hV i) ml_RX5_207 mi_yX5_isThere hA.k0 (by decide) (by decide +kernel) rfl (Nat.le_of_ble_eq_true rfl) (Nat.le_of_ble_eq_true rfl) (Nat.le_of_ble_eq_true rfl) (Nat.le_of_ble_eq_true rfl) (Nat.le_of_ble_eq_true rfl) dX5_historyLength_2 (fun r u h => ?_) _ rfl
  rcases h with ⟨hi, rfl, rfl⟩ | ⟨hi, rfl, rfl⟩
  · obtain ⟨j, hj, rfl⟩ := ixI2 hi.1 hi.2 (by have := hA.hn; omega)
    have hA1 : NA (sI S 61 (am 0) 0) am (cn q 1) := FrN.I.toA hA
    have hV1 : NV (sI S 61 (am 0) 0) am q := FrN.I.toV hA hV
    refine v_if_eq C 17 (by decide) dX5_historyLength_5 (fun q => absurd q (by decide)) (fun _ => ?_)
    refine v_aload_n C 0 rfl rfl dX5_historyLength_8 ?_
    refine v_getR C (am 5) fl_RX5_25 hA.k0 hA.r46 dX5_historyLength_9 ?_
    refine v_iload_n C 1 rfl rfl dX5_historyLength_12 ?_
    refine v_iald C (nI (cn q (100 + j))) hA.k5 (by rw [hA1.n5]; exact vp_in_nI (by have := hA.hn; omega) (by decide)) ((congrArg _ (nI_clamp (by have := hA.hn; omega))).trans (hV1.hm j hj)) dX5_historyLength_13 ?_
    refine v_goto C 18 (by decide) dX5_historyLength_14 ?_
    exact v_iret C hRT (Nat.le_of_ble_eq_true rfl) (Nat.le_of_ble_eq_true rfl) dX5_historyLength_18 ⟨_, rfl, Or.inl ⟨j, hj, rfl, FrN.I, hI_sI1, rfl⟩⟩
  · have htt := trivial
    refine v_if_eq C 17 (by decide) dX5_historyLength_5 (fun _ => ?_) (fun q => absurd (by decide) q)
    refine v_iconst C (-1) (by decide) dX5_historyLength_17 ?_
    exact v_iret C hRT (Nat.le_of_ble_eq_true rfl) (Nat.le_of_ble_eq_true rfl) dX5_historyLength_18 ⟨_, rfl, Or.inr ⟨hi, FrN.I, hI_sI1⟩⟩
set_option maxRecDepth 100000 in
set_option maxHeartbeats 4000000 in
theorem c_X5_batch (l : Launch) (S : HS) (am : AM) (q : AS) (hA : NA S am (cn q 1)) (hV : NV S am q)  : cM l yX5_batch cX5_batch 1 (Option.some Jvm.ClassFile.FieldType.int) 4 [.ref (am 0)] S (pI fun r u => FrN S u am ∧ hI u 61 (am 0) = 0 ∧ nI (cn q 0) = r) 0 0 := by
  refine cM_intro (by decide +kernel) cd_X5_batch (Nat.le_of_ble_eq_true rfl) ?_
  intro pP eE sS mM aA bB tT cC G A C hRT hin
  refine V.lvs (lv2 := [(0, .ref (am 0))]) rfl ?_
  refine v_aload_n C 0 rfl rfl dX5_batch_0 ?_
  refine v_iconst C 0 (by decide) dX5_batch_1 ?_
  refine v_putI C fl_RX5_62 hA.k0 rfl rfl dX5_batch_2 ?_
  refine v_aload_n C 0 rfl rfl dX5_batch_5 ?_
  refine v_getI C (nI (cn q 0)) fl_RX5_111 hA.k0 ((hI_sI2 (fun q => absurd q.1 (by decide))).trans hV.v50) dX5_batch_6 ?_
  exact v_iret C hRT (Nat.le_of_ble_eq_true rfl) (Nat.le_of_ble_eq_true rfl) dX5_batch_9 ⟨_, rfl, FrN.I, hI_sI1, rfl⟩
set_option maxRecDepth 100000 in
set_option maxHeartbeats 4000000 in
theorem c_X5_tracks (l : Launch) (S : HS) (am : AM) (q : AS) (hA : NA S am (cn q 1)) (hV : NV S am q)  : cM l yX5_tracks cX5_tracks 1 (Option.some Jvm.ClassFile.FieldType.int) 4 [.ref (am 0)] S (pI fun r u => FrN S u am ∧ hI u 61 (am 0) = 0 ∧ nI (cn q 1) = r) 0 0 := by
  refine cM_intro (by decide +kernel) cd_X5_tracks (Nat.le_of_ble_eq_true rfl) ?_
  intro pP eE sS mM aA bB tT cC G A C hRT hin
  refine V.lvs (lv2 := [(0, .ref (am 0))]) rfl ?_
  refine v_aload_n C 0 rfl rfl dX5_tracks_0 ?_
  refine v_iconst C 0 (by decide) dX5_tracks_1 ?_
  refine v_putI C fl_RX5_62 hA.k0 rfl rfl dX5_tracks_2 ?_
  refine v_aload_n C 0 rfl rfl dX5_tracks_5 ?_
  refine v_getI C (nI (cn q 1)) fl_RX5_71 hA.k0 ((hI_sI2 (fun q => absurd q.1 (by decide))).trans hV.v44) dX5_tracks_6 ?_
  exact v_iret C hRT (Nat.le_of_ble_eq_true rfl) (Nat.le_of_ble_eq_true rfl) dX5_tracks_9 ⟨_, rfl, FrN.I, hI_sI1, rfl⟩
set_option maxRecDepth 100000 in
set_option maxHeartbeats 4000000 in
theorem c_X5_dropped (l : Launch) (S : HS) (am : AM) (q : AS) (hA : NA S am (cn q 1)) (hV : NV S am q)  : cM l yX5_dropped cX5_dropped 1 (Option.some Jvm.ClassFile.FieldType.int) 4 [.ref (am 0)] S (pI fun r u => FrN S u am ∧ hI u 61 (am 0) = 0 ∧ nI (cn q 3) = r) 0 0 := by
  refine cM_intro (by decide +kernel) cd_X5_dropped (Nat.le_of_ble_eq_true rfl) ?_
  intro pP eE sS mM aA bB tT cC G A C hRT hin
  refine V.lvs (lv2 := [(0, .ref (am 0))]) rfl ?_
  refine v_aload_n C 0 rfl rfl dX5_dropped_0 ?_
  refine v_iconst C 0 (by decide) dX5_dropped_1 ?_
  refine v_putI C fl_RX5_62 hA.k0 rfl rfl dX5_dropped_2 ?_
  refine v_aload_n C 0 rfl rfl dX5_dropped_5 ?_
  refine v_getI C (nI (cn q 3)) fl_RX5_170 hA.k0 ((hI_sI2 (fun q => absurd q.1 (by decide))).trans hV.v56) dX5_dropped_6 ?_
  exact v_iret C hRT (Nat.le_of_ble_eq_true rfl) (Nat.le_of_ble_eq_true rfl) dX5_dropped_9 ⟨_, rfl, FrN.I, hI_sI1, rfl⟩
set_option maxRecDepth 100000 in
set_option maxHeartbeats 4000000 in
theorem c_X5_isBalanced (l : Launch) (S : HS) (am : AM) (q : AS) (hA : NA S am (cn q 1)) (hV : NV S am q)  : cM l yX5_isBalanced cX5_isBalanced 1 (Option.some Jvm.ClassFile.FieldType.boolean) 4 [.ref (am 0)] S (pI fun r u => FrN S u am ∧ hI u 61 (am 0) = 0 ∧ 1 = r) 0 0 := by
  refine cM_intro (by decide +kernel) cd_X5_isBalanced (Nat.le_of_ble_eq_true rfl) ?_
  intro pP eE sS mM aA bB tT cC G A C hRT hin
  refine V.lvs (lv2 := [(0, .ref (am 0))]) rfl ?_
  refine v_aload_n C 0 rfl rfl dX5_isBalanced_0 ?_
  refine v_iconst C 0 (by decide) dX5_isBalanced_1 ?_
  refine v_putI C fl_RX5_62 hA.k0 rfl rfl dX5_isBalanced_2 ?_
  refine v_iconst C 1 (by decide) dX5_isBalanced_5 ?_
  exact v_zret C rfl hRT (Nat.le_of_ble_eq_true rfl) (Nat.le_of_ble_eq_true rfl) dX5_isBalanced_6 ⟨_, rfl, FrN.I, hI_sI1, rfl⟩
set_option maxRecDepth 100000 in
set_option maxHeartbeats 4000000 in
theorem c_X5_liveTracks (l : Launch) (S : HS) (am : AM) (q : AS) (hB : BI q) (hA : NA S am (cn q 1)) (hV : NV S am q)  : cM l yX5_liveTracks cX5_liveTracks 1 (Option.some Jvm.ClassFile.FieldType.int) 8 [.ref (am 0)] S (pI fun r u => FrN S u am ∧ hI u 61 (am 0) = 0 ∧ nI (lcn q) = r) 0 0 := by
  refine cM_intro (by decide +kernel) cd_X5_liveTracks (Nat.le_of_ble_eq_true rfl) ?_
  intro pP eE sS mM aA bB tT cC G A C hRT hin
  refine V.lvs (lv2 := [(0, .ref (am 0))]) rfl ?_
  refine v_aload_n C 0 rfl rfl dX5_liveTracks_0 ?_
  refine v_iconst C 0 (by decide) dX5_liveTracks_1 ?_
  refine v_putI C fl_RX5_62 hA.k0 rfl rfl dX5_liveTracks_2 ?_
  refine v_aload_n C 0 rfl rfl dX5_liveTracks_5 ?_
  refine v_callVi C (st := []) [] (c_X5_live l (sI S 61 (am 0) 0) am q hB (FrN.I.toA hA) (FrN.I.toV hA hV)) ml_RX5_166 mi_yX5_live hA.k0 (by decide) (by decide +kernel) rfl (Nat.le_of_ble_eq_true rfl) (Nat.le_of_ble_eq_true rfl) (Nat.le_of_ble_eq_true rfl) (Nat.le_of_ble_eq_true rfl) (Nat.le_of_ble_eq_true rfl) dX5_liveTracks_6 (fun r u h => ?_) _ rfl
  obtain ⟨rfl, rfl⟩ := h
  exact v_iret C hRT (Nat.le_of_ble_eq_true rfl) (Nat.le_of_ble_eq_true rfl) dX5_liveTracks_9 ⟨_, rfl, FrN.I, hI_sI1, rfl⟩
theorem NV.clr {S : HS} {am : AM} {q : AS} (hA : NA S am (cn q 1)) (hV : NV S am q) : NV (sI S 50 (am 0) 0) am (cs q 0 0) := by
  have r1 : ∀ f, f ≠ 50 → ∀ a, hI (sI S 50 (am 0) 0) f a = hI S f a := fun f hf a => hI_sI2 (fun z => hf z.1)
  have c : ∀ k, k ≠ 0 → cn (cs q 0 0) k = cn q k := fun k hk => by rw [cn_cs, if_neg hk]
  refine ⟨by rw [r1 _ (by decide), c 1 (by decide)]; exact hV.v44, hI_sI1, by rw [r1 _ (by decide)]; exact hV.v51, by rw [r1 _ (by decide)]; exact hV.v52, by rw [r1 _ (by decide)]; exact hV.v53, by rw [r1 _ (by decide)]; exact hV.v54, by rw [r1 _ (by decide)]; exact hV.v55, by rw [r1 _ (by decide), c 3 (by decide)]; exact hV.v56, by rw [r1 _ (by decide), c 2 (by decide)]; exact hV.v57,
    fun i hi => by rw [c _ (by omega)]; exact hV.pm i hi, fun i hi h k hk => by rw [c _ (by omega)] at h; exact hV.p1 i hi h k hk, fun i hi h k hk => by rw [c _ (by omega)] at h; exact hV.p2 i hi h k hk, fun t ht k hk => ?_, fun t ht => ?_, fun t ht j hj => ?_, fun t ht => ?_, fun r hr => hV.t6 r hr, fun r hr => hV.t7 r hr, fun r hr => hV.t8 r hr⟩
  all_goals rw [c 1 (by decide)] at ht
  · exact hV.m t ht k hk
  · rw [c _ (by omega)]; exact hV.hm t ht
  · rw [c _ (by omega)] at hj; exact hV.hr t ht j hj
  · rw [c _ (by omega)]; exact hV.hl t ht
set_option maxRecDepth 100000 in
set_option maxHeartbeats 4000000 in
theorem c_X5_clearBatch (l : Launch) (S : HS) (am : AM) (q : AS) (hA : NA S am (cn q 1)) (hV : NV S am q)  : cM l yX5_clearBatch cX5_clearBatch 2 (Option.some Jvm.ClassFile.FieldType.int) 4 [.ref (am 0)] S (pI fun r u => NA u am (cn q 1) ∧ NV u am (cs q 0 0) ∧ hI u 61 (am 0) = 0 ∧ nI (cn q 0) = r) 0 0 := by
  refine cM_intro (by decide +kernel) cd_X5_clearBatch (Nat.le_of_ble_eq_true rfl) ?_
  intro pP eE sS mM aA bB tT cC G A C hRT hin
  refine V.lvs (lv2 := [(0, .ref (am 0))]) rfl ?_
  refine v_aload_n C 0 rfl rfl dX5_clearBatch_0 ?_
  refine v_iconst C 0 (by decide) dX5_clearBatch_1 ?_
  refine v_putI C fl_RX5_62 hA.k0 rfl rfl dX5_clearBatch_2 ?_
  refine v_aload_n C 0 rfl rfl dX5_clearBatch_5 ?_
  refine v_getI C (nI (cn q 0)) fl_RX5_111 hA.k0 ((hI_sI2 (fun q => absurd q.1 (by decide))).trans hV.v50) dX5_clearBatch_6 ?_
  refine v_istore_n C [(1, .int (nI (cn q 0))), (0, .ref (am 0))] (by decide) rfl rfl dX5_clearBatch_9 ?_
  refine v_aload_n C 1 rfl rfl dX5_clearBatch_10 ?_
  refine v_iconst C 0 (by decide) dX5_clearBatch_11 ?_
  refine v_putI C fl_RX5_111 hA.k0 rfl rfl dX5_clearBatch_12 ?_
  refine v_iload_n C 0 rfl rfl dX5_clearBatch_15 ?_
  exact v_iret C hRT (Nat.le_of_ble_eq_true rfl) (Nat.le_of_ble_eq_true rfl) dX5_clearBatch_16 ⟨_, rfl, ((FrN.I (v := 0)).toA hA).of rfl rfl rfl rfl, NV.clr ((FrN.I (v := 0)).toA hA) ((FrN.I (v := 0)).toV hA hV), (hI_sI2 (fun z => absurd z.1 (by decide))).trans hI_sI1, rfl⟩
