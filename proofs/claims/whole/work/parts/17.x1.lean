theorem ixI {i : Int32} {n : Nat} (h : ¬ i < 0) (h2 : i < nI n) (hn : n < 2 ^ 31) : ∃ j, j < n ∧ i = nI j := by
  obtain ⟨j, hj, rfl⟩ := nI_of h
  exact ⟨j, by
    rcases Nat.lt_or_ge j n with z | z
    · exact z
    · exact absurd h2 (nI_nlt z hj), rfl⟩
theorem ixI2 {i : Int32} {n : Nat} (h : ¬ i < 0) (h2 : ¬ nI n ≤ i) (hn : n < 2 ^ 31) : ∃ j, j < n ∧ i = nI j := by
  obtain ⟨j, hj, rfl⟩ := nI_of h
  exact ⟨j, nlt h2 hj, rfl⟩
theorem bI_e0 {q : Prop} [Decidable q] (h : bI q = 0) : ¬ q := fun z => by rw [bI1 z] at h; exact absurd h (by decide)
theorem bI_n0 {q : Prop} [Decidable q] (h : ¬ bI q = 0) : q := Classical.byContradiction fun z => h (bI0 z)
abbrev eIO : String := "java/lang/IndexOutOfBoundsException"
abbrev eIA : String := "java/lang/IllegalArgumentException"
abbrev eIS : String := "java/lang/IllegalStateException"
abbrev eNE : String := "java/util/NoSuchElementException"
abbrev eAR : String := "java/lang/ArithmeticException"
set_option maxRecDepth 100000 in
set_option maxHeartbeats 4000000 in
theorem c_X4_refuseUnless (l : Launch) (hlf : l.stackTraces = false) (S : HS) (b : Int32) : cX l yX4_refuseUnless cX4_refuseUnless 1 (Option.none : Option Jvm.ClassFile.FieldType) 6 [.int b] S (pV fun u => S = u ∧ ¬ b = 0) (fun E u => E = eIA ∧ S = u ∧ b = 0) 1 6 := by
  refine cX_intro (by decide +kernel) cd_X4_refuseUnless (Nat.le_of_ble_eq_true rfl) ?_
  intro pP eE sS mM aA bB tT cC G A C hRT hnt
  refine V.lvs (lv2 := [(0, .int b)]) rfl ?_
  refine v_iload_n C 0 rfl rfl dX4_refuseUnless_0 ?_
  refine v_if_ne C 15 (by decide) dX4_refuseUnless_1 (fun c1 => ?_) (fun c1 => ?_)
  · exact v_xvret C hRT (Nat.le_of_ble_eq_true rfl) (Nat.le_of_ble_eq_true rfl) dX4_refuseUnless_15 ⟨rfl, rfl, c1⟩
  · exact v_throwSW C hlf tl_357_359 hnt (Nat.le_of_ble_eq_true rfl) (Nat.le_of_ble_eq_true rfl) (Nat.le_of_ble_eq_true rfl) (Nat.le_of_ble_eq_true rfl) (Nat.le_of_ble_eq_true rfl) (Nat.le_of_ble_eq_true rfl) (Nat.le_of_ble_eq_true rfl) ⟨rfl, rfl, c1⟩ dX4_refuseUnless_4 dX4_refuseUnless_7 dX4_refuseUnless_8 dX4_refuseUnless_11 dX4_refuseUnless_14
set_option maxRecDepth 100000 in
set_option maxHeartbeats 4000000 in
theorem c_X4_clockOf (l : Launch) (hlf : l.stackTraces = false) (S : HS) (ad : AD) (n : Nat) (i : Int32) (hA : XA S ad n) : cX l yX4_clockOf cX4_clockOf 3 (Option.some (Jvm.ClassFile.FieldType.object "TrackFusion$Clock")) 6 [.ref (ad 0 0), .int i] S (pQ fun r u => ∃ j, j < 4 ∧ i = nI j ∧ some (ad 2 j) = r ∧ S = u) (fun E u => E = eIO ∧ S = u ∧ (i < 0 ∨ ¬ i < 4)) 1 6 := by
  refine cX_intro (by decide +kernel) cd_X4_clockOf (Nat.le_of_ble_eq_true rfl) ?_
  intro pP eE sS mM aA bB tT cC G A C hRT hnt
  refine V.lvs (lv2 := [(0, .ref (ad 0 0)), (1, .int i)]) rfl ?_
  refine v_iload_n C 1 rfl rfl dX4_clockOf_0 ?_
  refine v_if_lt C 13 (by decide) dX4_clockOf_1 (fun c1 => ?_) (fun c1 => ?_)
  · refine v_null C dX4_clockOf_13 ?_
    refine v_goto C 23 (by decide) dX4_clockOf_14 ?_
    refine v_astore_nN C [(2, .null), (0, .ref (ad 0 0)), (1, .int i)] (by decide) rfl rfl dX4_clockOf_23 ?_
    refine v_aload_nN C 0 rfl rfl dX4_clockOf_24 ?_
    refine v_ifnonnullN C dX4_clockOf_25 ?_
    exact v_throwS C hlf tl_79_81 hnt (Nat.le_of_ble_eq_true rfl) (Nat.le_of_ble_eq_true rfl) (Nat.le_of_ble_eq_true rfl) (Nat.le_of_ble_eq_true rfl) (Nat.le_of_ble_eq_true rfl) (Nat.le_of_ble_eq_true rfl) (Nat.le_of_ble_eq_true rfl) ⟨rfl, rfl, Or.inl c1⟩ dX4_clockOf_28 dX4_clockOf_31 dX4_clockOf_32 dX4_clockOf_34 dX4_clockOf_37
  · refine v_iload_n C 1 rfl rfl dX4_clockOf_4 ?_
    refine v_aload_n C 0 rfl rfl dX4_clockOf_5 ?_
    refine v_getR C (ad 1 0) fl_RX4_11 hA.k0 hA.r28 dX4_clockOf_6 ?_
    refine v_alen C 4 (kle hA.k1 (by decide)) (kge hA.k1 (by decide)) (by rw [hA.n1]; rfl) dX4_clockOf_9 ?_
    refine v_icmp_lt C 17 (by decide) dX4_clockOf_10 (fun c10 => ?_) (fun c10 => ?_)
    · obtain ⟨j, hj, rfl⟩ := ixI (n := 4) c1 c10 (by omega)
      refine v_aload_n C 0 rfl rfl dX4_clockOf_17 ?_
      refine v_getR C (ad 1 0) fl_RX4_11 hA.k0 hA.r28 dX4_clockOf_18 ?_
      refine v_iload_n C 1 rfl rfl dX4_clockOf_21 ?_
      refine v_aald C (some (ad 2 j)) (klt hA.k1 (by decide)) (kgt hA.k1 (by decide)) (by rw [hA.n1]; exact vp_in_nI hj (by decide)) ((congrArg _ (nI_clamp (by omega))).trans (hA.a1 j hj)) dX4_clockOf_22 ?_
      refine v_astore_n C [(2, .ref (ad 2 j)), (0, .ref (ad 0 0)), (1, .int (nI j))] (by decide) rfl rfl dX4_clockOf_23 ?_
      refine v_aload_n C 0 rfl rfl dX4_clockOf_24 ?_
      refine v_ifnonnull C 38 (by decide) dX4_clockOf_25 ?_
      refine v_aload_n C 0 rfl rfl dX4_clockOf_38 ?_
      exact v_xaret (r := (some (ad 2 j))) C (Or.inl ⟨_, rfl⟩) hRT (Nat.le_of_ble_eq_true rfl) (Nat.le_of_ble_eq_true rfl) dX4_clockOf_39 ⟨_, rfl, j, hj, rfl, rfl, rfl⟩
    · refine v_null C dX4_clockOf_13 ?_
      refine v_goto C 23 (by decide) dX4_clockOf_14 ?_
      refine v_astore_nN C [(2, .null), (0, .ref (ad 0 0)), (1, .int i)] (by decide) rfl rfl dX4_clockOf_23 ?_
      refine v_aload_nN C 0 rfl rfl dX4_clockOf_24 ?_
      refine v_ifnonnullN C dX4_clockOf_25 ?_
      exact v_throwS C hlf tl_79_81 hnt (Nat.le_of_ble_eq_true rfl) (Nat.le_of_ble_eq_true rfl) (Nat.le_of_ble_eq_true rfl) (Nat.le_of_ble_eq_true rfl) (Nat.le_of_ble_eq_true rfl) (Nat.le_of_ble_eq_true rfl) (Nat.le_of_ble_eq_true rfl) ⟨rfl, rfl, Or.inr c10⟩ dX4_clockOf_28 dX4_clockOf_31 dX4_clockOf_32 dX4_clockOf_34 dX4_clockOf_37
theorem nI_out {j n : Nat} (h : nI j < 0 ∨ nI n ≤ nI j) (hj : j < 2 ^ 31) (hn : n < 2 ^ 31) : n ≤ j := by
  rcases h with h | h
  · exact absurd h (nI_pos hj)
  · exact nge h hn
set_option maxRecDepth 100000 in
set_option maxHeartbeats 4000000 in
theorem c_X4_rowAt_y (l : Launch) (S : HS) (ad : AD) (n j : Nat) (hA : XA S ad n) (hj : j < 4) : cM l yX4_rowAt cX4_rowAt 2 (Option.some (Jvm.ClassFile.FieldType.object "TrackFusion$Report")) 2 [.ref (ad 0 0), .int (nI j)] S (pQ fun r u => some (ad 4 j) = r ∧ S = u) 0 0 := by
  refine cM_intro (by decide +kernel) cd_X4_rowAt (Nat.le_of_ble_eq_true rfl) ?_
  intro pP eE sS mM aA bB tT cC G A C hRT hin
  refine V.lvs (lv2 := [(0, .ref (ad 0 0)), (1, .int (nI j))]) rfl ?_
  have hn6 := hA.hn
  refine v_iload_n C 1 rfl rfl dX4_rowAt_0 ?_
  refine v_if_lt C 13 (by decide) dX4_rowAt_1 (fun q => (nI_pos (by omega) q).elim) (fun c1 => ?_)
  refine v_iload_n C 1 rfl rfl dX4_rowAt_4 ?_
  refine v_aload_n C 0 rfl rfl dX4_rowAt_5 ?_
  refine v_getR C (ad 3 0) fl_RX4_17 hA.k0 hA.r29 dX4_rowAt_6 ?_
  refine v_alen C 4 (kle hA.k3 (by decide)) (kge hA.k3 (by decide)) (by rw [hA.n3]; rfl) dX4_rowAt_9 ?_
  refine v_icmp_lt C 17 (by decide) dX4_rowAt_10 (fun c10 => ?_) (fun q => (q (by exact nI_lt (a := j) (b := 4) (by omega) (by decide))).elim)
  refine v_aload_n C 0 rfl rfl dX4_rowAt_17 ?_
  refine v_getR C (ad 3 0) fl_RX4_17 hA.k0 hA.r29 dX4_rowAt_18 ?_
  refine v_iload_n C 1 rfl rfl dX4_rowAt_21 ?_
  refine v_aald C (some (ad 4 j)) (klt hA.k3 (by decide)) (kgt hA.k3 (by decide)) (by rw [hA.n3]; exact vp_in_nI (by omega) (by decide)) ((congrArg _ (nI_clamp (by omega))).trans (hA.a3 j hj)) dX4_rowAt_22 ?_
  exact v_aret (r := (some (ad 4 j))) C (Or.inl ⟨_, rfl⟩) hRT (Nat.le_of_ble_eq_true rfl) (Nat.le_of_ble_eq_true rfl) dX4_rowAt_23 ⟨_, rfl, rfl, rfl⟩
set_option maxRecDepth 100000 in
set_option maxHeartbeats 4000000 in
theorem c_X4_trackAt_y (l : Launch) (S : HS) (ad : AD) (n j : Nat) (hA : XA S ad n) (hj : j < n) : cM l yX4_trackAt cX4_trackAt 2 (Option.some (Jvm.ClassFile.FieldType.object "TrackFusion$Track")) 2 [.ref (ad 0 0), .int (nI j)] S (pQ fun r u => some (ad 6 j) = r ∧ S = u) 0 0 := by
  refine cM_intro (by decide +kernel) cd_X4_trackAt (Nat.le_of_ble_eq_true rfl) ?_
  intro pP eE sS mM aA bB tT cC G A C hRT hin
  refine V.lvs (lv2 := [(0, .ref (ad 0 0)), (1, .int (nI j))]) rfl ?_
  have hn6 := hA.hn
  refine v_iload_n C 1 rfl rfl dX4_trackAt_0 ?_
  refine v_if_lt C 13 (by decide) dX4_trackAt_1 (fun q => (nI_pos (by omega) q).elim) (fun c1 => ?_)
  refine v_iload_n C 1 rfl rfl dX4_trackAt_4 ?_
  refine v_aload_n C 0 rfl rfl dX4_trackAt_5 ?_
  refine v_getR C (ad 5 0) fl_RX4_23 hA.k0 hA.r31 dX4_trackAt_6 ?_
  refine v_alen C 60 (kle hA.k5 (by decide)) (kge hA.k5 (by decide)) (by rw [hA.n5]; rfl) dX4_trackAt_9 ?_
  refine v_icmp_lt C 17 (by decide) dX4_trackAt_10 (fun c10 => ?_) (fun q => (q (by exact nI_lt (a := j) (b := 60) (by omega) (by decide))).elim)
  refine v_aload_n C 0 rfl rfl dX4_trackAt_17 ?_
  refine v_getR C (ad 5 0) fl_RX4_23 hA.k0 hA.r31 dX4_trackAt_18 ?_
  refine v_iload_n C 1 rfl rfl dX4_trackAt_21 ?_
  refine v_aald C (some (ad 6 j)) (klt hA.k5 (by decide)) (kgt hA.k5 (by decide)) (by rw [hA.n5]; exact vp_in_nI (by omega) (by decide)) ((congrArg _ (nI_clamp (by omega))).trans (hA.a5 j hj)) dX4_trackAt_22 ?_
  exact v_aret (r := (some (ad 6 j))) C (Or.inl ⟨_, rfl⟩) hRT (Nat.le_of_ble_eq_true rfl) (Nat.le_of_ble_eq_true rfl) dX4_trackAt_23 ⟨_, rfl, rfl, rfl⟩
set_option maxRecDepth 100000 in
set_option maxHeartbeats 4000000 in
theorem c_X4_rowAt_n (l : Launch) (S : HS) (ad : AD) (n : Nat) (i : Int32) (hA : XA S ad n) (hi : i < 0 ∨ ¬ i < 4) : cM l yX4_rowAt cX4_rowAt 2 (Option.some (Jvm.ClassFile.FieldType.object "TrackFusion$Report")) 2 [.ref (ad 0 0), .int i] S (pQ fun r u => none = r ∧ S = u) 0 0 := by
  refine cM_intro (by decide +kernel) cd_X4_rowAt (Nat.le_of_ble_eq_true rfl) ?_
  intro pP eE sS mM aA bB tT cC G A C hRT hin
  refine V.lvs (lv2 := [(0, .ref (ad 0 0)), (1, .int i)]) rfl ?_
  refine v_iload_n C 1 rfl rfl dX4_rowAt_0 ?_
  refine v_if_lt C 13 (by decide) dX4_rowAt_1 (fun c1 => ?_) (fun c1 => ?_)
  · refine v_null C dX4_rowAt_13 ?_
    refine v_goto C 23 (by decide) dX4_rowAt_14 ?_
    exact v_aret (r := none) C (Or.inl ⟨_, rfl⟩) hRT (Nat.le_of_ble_eq_true rfl) (Nat.le_of_ble_eq_true rfl) dX4_rowAt_23 ⟨_, rfl, rfl, rfl⟩
  · refine v_iload_n C 1 rfl rfl dX4_rowAt_4 ?_
    refine v_aload_n C 0 rfl rfl dX4_rowAt_5 ?_
    refine v_getR C (ad 3 0) fl_RX4_17 hA.k0 hA.r29 dX4_rowAt_6 ?_
    refine v_alen C 4 (kle hA.k3 (by decide)) (kge hA.k3 (by decide)) (by rw [hA.n3]; rfl) dX4_rowAt_9 ?_
    refine v_icmp_lt C 17 (by decide) dX4_rowAt_10 (fun q => (hi.elim c1 (fun z => z q)).elim) (fun c10 => ?_)
    refine v_null C dX4_rowAt_13 ?_
    refine v_goto C 23 (by decide) dX4_rowAt_14 ?_
    exact v_aret (r := none) C (Or.inl ⟨_, rfl⟩) hRT (Nat.le_of_ble_eq_true rfl) (Nat.le_of_ble_eq_true rfl) dX4_rowAt_23 ⟨_, rfl, rfl, rfl⟩
set_option maxRecDepth 100000 in
set_option maxHeartbeats 4000000 in
theorem c_X4_trackAt_n (l : Launch) (S : HS) (ad : AD) (n : Nat) (i : Int32) (hA : XA S ad n) (hi : i < 0 ∨ nI n ≤ i) : cM l yX4_trackAt cX4_trackAt 2 (Option.some (Jvm.ClassFile.FieldType.object "TrackFusion$Track")) 2 [.ref (ad 0 0), .int i] S (pQ fun r u => none = r ∧ S = u) 0 0 := by
  refine cM_intro (by decide +kernel) cd_X4_trackAt (Nat.le_of_ble_eq_true rfl) ?_
  intro pP eE sS mM aA bB tT cC G A C hRT hin
  refine V.lvs (lv2 := [(0, .ref (ad 0 0)), (1, .int i)]) rfl ?_
  refine v_iload_n C 1 rfl rfl dX4_trackAt_0 ?_
  refine v_if_lt C 13 (by decide) dX4_trackAt_1 (fun c1 => ?_) (fun c1 => ?_)
  · refine v_null C dX4_trackAt_13 ?_
    refine v_goto C 23 (by decide) dX4_trackAt_14 ?_
    exact v_aret (r := none) C (Or.inl ⟨_, rfl⟩) hRT (Nat.le_of_ble_eq_true rfl) (Nat.le_of_ble_eq_true rfl) dX4_trackAt_23 ⟨_, rfl, rfl, rfl⟩
  · refine v_iload_n C 1 rfl rfl dX4_trackAt_4 ?_
    refine v_aload_n C 0 rfl rfl dX4_trackAt_5 ?_
    refine v_getR C (ad 5 0) fl_RX4_23 hA.k0 hA.r31 dX4_trackAt_6 ?_
    refine v_alen C 60 (kle hA.k5 (by decide)) (kge hA.k5 (by decide)) (by rw [hA.n5]; rfl) dX4_trackAt_9 ?_
    refine v_icmp_lt C 17 (by decide) dX4_trackAt_10 (fun c10 => ?_) (fun c10 => ?_)
    · obtain ⟨j, hj, rfl⟩ := ixI (n := 60) c1 c10 (by omega)
      have hnj : n ≤ j := nI_out hi (by omega) (by have := hA.hn; omega)
      refine v_aload_n C 0 rfl rfl dX4_trackAt_17 ?_
      refine v_getR C (ad 5 0) fl_RX4_23 hA.k0 hA.r31 dX4_trackAt_18 ?_
      refine v_iload_n C 1 rfl rfl dX4_trackAt_21 ?_
      refine v_aald C none (klt hA.k5 (by decide)) (kgt hA.k5 (by decide)) (by rw [hA.n5]; exact vp_in_nI hj (by decide)) ((congrArg _ (nI_clamp (by omega))).trans (hA.a5n j hnj hj)) dX4_trackAt_22 ?_
      exact v_aret (r := none) C (Or.inl ⟨_, rfl⟩) hRT (Nat.le_of_ble_eq_true rfl) (Nat.le_of_ble_eq_true rfl) dX4_trackAt_23 ⟨_, rfl, rfl, rfl⟩
    · refine v_null C dX4_trackAt_13 ?_
      refine v_goto C 23 (by decide) dX4_trackAt_14 ?_
      exact v_aret (r := none) C (Or.inl ⟨_, rfl⟩) hRT (Nat.le_of_ble_eq_true rfl) (Nat.le_of_ble_eq_true rfl) dX4_trackAt_23 ⟨_, rfl, rfl, rfl⟩
set_option maxRecDepth 100000 in
set_option maxHeartbeats 4000000 in
theorem c_X4_liveTrackAt_y (l : Launch) (S : HS) (ad : AD) (n j : Nat) (hA : XA S ad n) (hj : j < n) (hv : hI S 24 (ad 6 j) = 1) : cM l yX4_liveTrackAt cX4_liveTrackAt 3 (Option.some (Jvm.ClassFile.FieldType.object "TrackFusion$Track")) 3 [.ref (ad 0 0), .int (nI j)] S (pQ fun r u => some (ad 6 j) = r ∧ S = u) 0 0 := by
  refine cM_intro (by decide +kernel) cd_X4_liveTrackAt (Nat.le_of_ble_eq_true rfl) ?_
  intro pP eE sS mM aA bB tT cC G A C hRT hin
  refine V.lvs (lv2 := [(0, .ref (ad 0 0)), (1, .int (nI j))]) rfl ?_
  refine v_aload_n C 0 rfl rfl dX4_liveTrackAt_0 ?_
  refine v_iload_n C 1 rfl rfl dX4_liveTrackAt_1 ?_
  refine v_callVq C (st := []) [.int (nI j)] (c_X4_trackAt_y l S ad n j hA hj) ml_RX4_347 mi_yX4_trackAt hA.k0 (by decide) (by decide +kernel) rfl (Nat.le_of_ble_eq_true rfl) (Nat.le_of_ble_eq_true rfl) (Nat.le_of_ble_eq_true rfl) (Nat.le_of_ble_eq_true rfl) (Nat.le_of_ble_eq_true rfl) dX4_liveTrackAt_2 (fun r u h => ?_) _ rfl
  obtain ⟨rfl, rfl⟩ := h
  refine v_astore_n C [(2, .ref (ad 6 j)), (0, .ref (ad 0 0)), (1, .int (nI j))] (by decide) rfl rfl dX4_liveTrackAt_5 ?_
  refine v_aload_n C 0 rfl rfl dX4_liveTrackAt_6 ?_
  refine v_ifnull C dX4_liveTrackAt_7 ?_
  refine v_aload_n C 0 rfl rfl dX4_liveTrackAt_10 ?_
  refine v_getI C 1 fl_RX4_294 (hA.k6 j hj) hv dX4_liveTrackAt_11 ?_
  refine v_if_ne C 21 (by decide) dX4_liveTrackAt_14 (fun _ => ?_) (fun q => absurd q (by decide))
  refine v_aload_n C 0 rfl rfl dX4_liveTrackAt_21 ?_
  exact v_aret (r := (some (ad 6 j))) C (Or.inl ⟨_, rfl⟩) hRT (Nat.le_of_ble_eq_true rfl) (Nat.le_of_ble_eq_true rfl) dX4_liveTrackAt_22 ⟨_, rfl, rfl, rfl⟩
set_option maxRecDepth 100000 in
set_option maxHeartbeats 4000000 in
theorem c_X4_liveTrackAt_d (l : Launch) (S : HS) (ad : AD) (n j : Nat) (hA : XA S ad n) (hj : j < n) (hv : hI S 24 (ad 6 j) = 0) : cM l yX4_liveTrackAt cX4_liveTrackAt 3 (Option.some (Jvm.ClassFile.FieldType.object "TrackFusion$Track")) 3 [.ref (ad 0 0), .int (nI j)] S (pQ fun r u => none = r ∧ S = u) 0 0 := by
  refine cM_intro (by decide +kernel) cd_X4_liveTrackAt (Nat.le_of_ble_eq_true rfl) ?_
  intro pP eE sS mM aA bB tT cC G A C hRT hin
  refine V.lvs (lv2 := [(0, .ref (ad 0 0)), (1, .int (nI j))]) rfl ?_
  refine v_aload_n C 0 rfl rfl dX4_liveTrackAt_0 ?_
  refine v_iload_n C 1 rfl rfl dX4_liveTrackAt_1 ?_
  refine v_callVq C (st := []) [.int (nI j)] (c_X4_trackAt_y l S ad n j hA hj) ml_RX4_347 mi_yX4_trackAt hA.k0 (by decide) (by decide +kernel) rfl (Nat.le_of_ble_eq_true rfl) (Nat.le_of_ble_eq_true rfl) (Nat.le_of_ble_eq_true rfl) (Nat.le_of_ble_eq_true rfl) (Nat.le_of_ble_eq_true rfl) dX4_liveTrackAt_2 (fun r u h => ?_) _ rfl
  obtain ⟨rfl, rfl⟩ := h
  refine v_astore_n C [(2, .ref (ad 6 j)), (0, .ref (ad 0 0)), (1, .int (nI j))] (by decide) rfl rfl dX4_liveTrackAt_5 ?_
  refine v_aload_n C 0 rfl rfl dX4_liveTrackAt_6 ?_
  refine v_ifnull C dX4_liveTrackAt_7 ?_
  refine v_aload_n C 0 rfl rfl dX4_liveTrackAt_10 ?_
  refine v_getI C 0 fl_RX4_294 (hA.k6 j hj) hv dX4_liveTrackAt_11 ?_
  refine v_if_ne C 21 (by decide) dX4_liveTrackAt_14 (fun q => absurd (by decide) q) (fun _ => ?_)
  refine v_null C dX4_liveTrackAt_17 ?_
  refine v_goto C 22 (by decide) dX4_liveTrackAt_18 ?_
  exact v_aret (r := none) C (Or.inl ⟨_, rfl⟩) hRT (Nat.le_of_ble_eq_true rfl) (Nat.le_of_ble_eq_true rfl) dX4_liveTrackAt_22 ⟨_, rfl, rfl, rfl⟩
set_option maxRecDepth 100000 in
set_option maxHeartbeats 4000000 in
theorem c_X4_liveTrackAt_n (l : Launch) (S : HS) (ad : AD) (n : Nat) (i : Int32) (hA : XA S ad n) (hi : i < 0 ∨ nI n ≤ i) : cM l yX4_liveTrackAt cX4_liveTrackAt 3 (Option.some (Jvm.ClassFile.FieldType.object "TrackFusion$Track")) 3 [.ref (ad 0 0), .int i] S (pQ fun r u => none = r ∧ S = u) 0 0 := by
  refine cM_intro (by decide +kernel) cd_X4_liveTrackAt (Nat.le_of_ble_eq_true rfl) ?_
  intro pP eE sS mM aA bB tT cC G A C hRT hin
  refine V.lvs (lv2 := [(0, .ref (ad 0 0)), (1, .int i)]) rfl ?_
  refine v_aload_n C 0 rfl rfl dX4_liveTrackAt_0 ?_
  refine v_iload_n C 1 rfl rfl dX4_liveTrackAt_1 ?_
  refine v_callVq C (st := []) [.int i] (c_X4_trackAt_n l S ad n i hA hi) ml_RX4_347 mi_yX4_trackAt hA.k0 (by decide) (by decide +kernel) rfl (Nat.le_of_ble_eq_true rfl) (Nat.le_of_ble_eq_true rfl) (Nat.le_of_ble_eq_true rfl) (Nat.le_of_ble_eq_true rfl) (Nat.le_of_ble_eq_true rfl) dX4_liveTrackAt_2 (fun r u h => ?_) _ rfl
  obtain ⟨rfl, rfl⟩ := h
  refine v_astore_nN C [(2, .null), (0, .ref (ad 0 0)), (1, .int i)] (by decide) rfl rfl dX4_liveTrackAt_5 ?_
  refine v_aload_nN C 0 rfl rfl dX4_liveTrackAt_6 ?_
  refine v_ifnullN C 17 (by decide) dX4_liveTrackAt_7 ?_
  refine v_null C dX4_liveTrackAt_17 ?_
  refine v_goto C 22 (by decide) dX4_liveTrackAt_18 ?_
  exact v_aret (r := none) C (Or.inl ⟨_, rfl⟩) hRT (Nat.le_of_ble_eq_true rfl) (Nat.le_of_ble_eq_true rfl) dX4_liveTrackAt_22 ⟨_, rfl, rfl, rfl⟩
set_option maxRecDepth 100000 in
set_option maxHeartbeats 4000000 in
theorem c_X4_trackNumbered (l : Launch) (hlf : l.stackTraces = false) (S : HS) (ad : AD) (q : AS) (i : Int32) (hA : XA S ad (cn q 1)) (hv32 : hI S 32 (ad 0 0) = nI (cn q 1)) : cX l yX4_trackNumbered cX4_trackNumbered 3 (Option.some (Jvm.ClassFile.FieldType.object "TrackFusion$Track")) 6 [.ref (ad 0 0), .int i] S (pQ fun r u => ∃ j, j < cn q 1 ∧ i = nI j ∧ some (ad 6 j) = r ∧ S = u) (fun E u => E = eIO ∧ S = u ∧ (i < 0 ∨ nI (cn q 1) ≤ i)) 1 6 := by
  refine cX_intro (by decide +kernel) cd_X4_trackNumbered (Nat.le_of_ble_eq_true rfl) ?_
  intro pP eE sS mM aA bB tT cC G A C hRT hnt
  refine V.lvs (lv2 := [(0, .ref (ad 0 0)), (1, .int i)]) rfl ?_
  by_cases hi : (i < 0 ∨ nI (cn q 1) ≤ i)
  · have hn6 := hA.hn
    refine v_aload_n C 0 rfl rfl dX4_trackNumbered_0 ?_
    refine v_iload_n C 1 rfl rfl dX4_trackNumbered_1 ?_
    refine v_callVq C (st := []) [.int i] (c_X4_trackAt_n l S ad (cn q 1) i hA hi) ml_RX4_347 mi_yX4_trackAt hA.k0 (by decide) (by decide +kernel) rfl (Nat.le_of_ble_eq_true rfl) (Nat.le_of_ble_eq_true rfl) (Nat.le_of_ble_eq_true rfl) (Nat.le_of_ble_eq_true rfl) (Nat.le_of_ble_eq_true rfl) dX4_trackNumbered_2 (fun r u h => ?_) _ rfl
    obtain ⟨rfl, rfl⟩ := h
    refine v_astore_nN C [(2, .null), (0, .ref (ad 0 0)), (1, .int i)] (by decide) rfl rfl dX4_trackNumbered_5 ?_
    refine v_aload_nN C 0 rfl rfl dX4_trackNumbered_6 ?_
    refine v_ifnonnullN C dX4_trackNumbered_7 ?_
    exact v_throwSW C hlf tl_79_348 hnt (Nat.le_of_ble_eq_true rfl) (Nat.le_of_ble_eq_true rfl) (Nat.le_of_ble_eq_true rfl) (Nat.le_of_ble_eq_true rfl) (Nat.le_of_ble_eq_true rfl) (Nat.le_of_ble_eq_true rfl) (Nat.le_of_ble_eq_true rfl) ⟨rfl, rfl, hi⟩ dX4_trackNumbered_10 dX4_trackNumbered_13 dX4_trackNumbered_14 dX4_trackNumbered_17 dX4_trackNumbered_20
  · have hn6 := hA.hn
    obtain ⟨j, hj, rfl⟩ := ixI2 (n := cn q 1) (fun z => hi (Or.inl z)) (fun z => hi (Or.inr z)) (by omega)
    refine v_aload_n C 0 rfl rfl dX4_trackNumbered_0 ?_
    refine v_iload_n C 1 rfl rfl dX4_trackNumbered_1 ?_
    refine v_callVq C (st := []) [.int (nI j)] (c_X4_trackAt_y l S ad (cn q 1) j hA hj) ml_RX4_347 mi_yX4_trackAt hA.k0 (by decide) (by decide +kernel) rfl (Nat.le_of_ble_eq_true rfl) (Nat.le_of_ble_eq_true rfl) (Nat.le_of_ble_eq_true rfl) (Nat.le_of_ble_eq_true rfl) (Nat.le_of_ble_eq_true rfl) dX4_trackNumbered_2 (fun r u h => ?_) _ rfl
    obtain ⟨rfl, rfl⟩ := h
    refine v_astore_n C [(2, .ref (ad 6 j)), (0, .ref (ad 0 0)), (1, .int (nI j))] (by decide) rfl rfl dX4_trackNumbered_5 ?_
    refine v_aload_n C 0 rfl rfl dX4_trackNumbered_6 ?_
    refine v_ifnonnull C 21 (by decide) dX4_trackNumbered_7 ?_
    refine v_aload_n C 0 rfl rfl dX4_trackNumbered_21 ?_
    exact v_xaret (r := (some (ad 6 j))) C (Or.inl ⟨_, rfl⟩) hRT (Nat.le_of_ble_eq_true rfl) (Nat.le_of_ble_eq_true rfl) dX4_trackNumbered_22 ⟨_, rfl, j, hj, rfl, rfl, rfl⟩
set_option maxRecDepth 100000 in
set_option maxHeartbeats 4000000 in
theorem c_X4_reportNumbered (l : Launch) (hlf : l.stackTraces = false) (S : HS) (ad : AD) (q : AS) (i : Int32) (hA : XA S ad (cn q 1)) (hv30 : hI S 30 (ad 0 0) = nI (cn q 0)) (h4 : cn q 0 ≤ 4) : cX l yX4_reportNumbered cX4_reportNumbered 3 (Option.some (Jvm.ClassFile.FieldType.object "TrackFusion$Report")) 6 [.ref (ad 0 0), .int i] S (pQ fun r u => ∃ j, j < cn q 0 ∧ i = nI j ∧ some (ad 4 j) = r ∧ S = u) (fun E u => E = eIO ∧ S = u ∧ (i < 0 ∨ nI (cn q 0) ≤ i)) 1 6 := by
  refine cX_intro (by decide +kernel) cd_X4_reportNumbered (Nat.le_of_ble_eq_true rfl) ?_
  intro pP eE sS mM aA bB tT cC G A C hRT hnt
  refine V.lvs (lv2 := [(0, .ref (ad 0 0)), (1, .int i)]) rfl ?_
  refine v_iload_n C 1 rfl rfl dX4_reportNumbered_0 ?_
  refine v_aload_n C 0 rfl rfl dX4_reportNumbered_1 ?_
  refine v_getI C (nI (cn q 0)) fl_RX4_93 hA.k0 hv30 dX4_reportNumbered_2 ?_
  refine v_icmp_ge C 16 (by decide) dX4_reportNumbered_5 (fun c5 => ?_) (fun c5 => ?_)
  · refine v_null C dX4_reportNumbered_16 ?_
    refine v_astore_nN C [(2, .null), (0, .ref (ad 0 0)), (1, .int i)] (by decide) rfl rfl dX4_reportNumbered_17 ?_
    refine v_aload_nN C 0 rfl rfl dX4_reportNumbered_18 ?_
    refine v_ifnonnullN C dX4_reportNumbered_19 ?_
    exact v_throwS C hlf tl_79_164 hnt (Nat.le_of_ble_eq_true rfl) (Nat.le_of_ble_eq_true rfl) (Nat.le_of_ble_eq_true rfl) (Nat.le_of_ble_eq_true rfl) (Nat.le_of_ble_eq_true rfl) (Nat.le_of_ble_eq_true rfl) (Nat.le_of_ble_eq_true rfl) ⟨rfl, rfl, Or.inr c5⟩ dX4_reportNumbered_22 dX4_reportNumbered_25 dX4_reportNumbered_26 dX4_reportNumbered_28 dX4_reportNumbered_31
  · by_cases hi : i < 0
    · have h49 := h4
      refine v_aload_n C 0 rfl rfl dX4_reportNumbered_8 ?_
      refine v_iload_n C 1 rfl rfl dX4_reportNumbered_9 ?_
      refine v_callVq C (st := []) [.int i] (c_X4_rowAt_n l S ad (cn q 1) i hA (Or.inl hi)) ml_RX4_96 mi_yX4_rowAt hA.k0 (by decide) (by decide +kernel) rfl (Nat.le_of_ble_eq_true rfl) (Nat.le_of_ble_eq_true rfl) (Nat.le_of_ble_eq_true rfl) (Nat.le_of_ble_eq_true rfl) (Nat.le_of_ble_eq_true rfl) dX4_reportNumbered_10 (fun r u h => ?_) _ rfl
      obtain ⟨rfl, rfl⟩ := h
      refine v_goto C 17 (by decide) dX4_reportNumbered_13 ?_
      refine v_astore_nN C [(2, .null), (0, .ref (ad 0 0)), (1, .int i)] (by decide) rfl rfl dX4_reportNumbered_17 ?_
      refine v_aload_nN C 0 rfl rfl dX4_reportNumbered_18 ?_
      refine v_ifnonnullN C dX4_reportNumbered_19 ?_
      exact v_throwS C hlf tl_79_164 hnt (Nat.le_of_ble_eq_true rfl) (Nat.le_of_ble_eq_true rfl) (Nat.le_of_ble_eq_true rfl) (Nat.le_of_ble_eq_true rfl) (Nat.le_of_ble_eq_true rfl) (Nat.le_of_ble_eq_true rfl) (Nat.le_of_ble_eq_true rfl) ⟨rfl, rfl, Or.inl hi⟩ dX4_reportNumbered_22 dX4_reportNumbered_25 dX4_reportNumbered_26 dX4_reportNumbered_28 dX4_reportNumbered_31
    · obtain ⟨j, hj, rfl⟩ := ixI2 (n := cn q 0) hi c5 (by omega)
      refine v_aload_n C 0 rfl rfl dX4_reportNumbered_8 ?_
      refine v_iload_n C 1 rfl rfl dX4_reportNumbered_9 ?_
      refine v_callVq C (st := []) [.int (nI j)] (c_X4_rowAt_y l S ad (cn q 1) j hA (by omega)) ml_RX4_96 mi_yX4_rowAt hA.k0 (by decide) (by decide +kernel) rfl (Nat.le_of_ble_eq_true rfl) (Nat.le_of_ble_eq_true rfl) (Nat.le_of_ble_eq_true rfl) (Nat.le_of_ble_eq_true rfl) (Nat.le_of_ble_eq_true rfl) dX4_reportNumbered_10 (fun r u h => ?_) _ rfl
      obtain ⟨rfl, rfl⟩ := h
      refine v_goto C 17 (by decide) dX4_reportNumbered_13 ?_
      refine v_astore_n C [(2, .ref (ad 4 j)), (0, .ref (ad 0 0)), (1, .int (nI j))] (by decide) rfl rfl dX4_reportNumbered_17 ?_
      refine v_aload_n C 0 rfl rfl dX4_reportNumbered_18 ?_
      refine v_ifnonnull C 32 (by decide) dX4_reportNumbered_19 ?_
      refine v_aload_n C 0 rfl rfl dX4_reportNumbered_32 ?_
      exact v_xaret (r := (some (ad 4 j))) C (Or.inl ⟨_, rfl⟩) hRT (Nat.le_of_ble_eq_true rfl) (Nat.le_of_ble_eq_true rfl) dX4_reportNumbered_33 ⟨_, rfl, j, hj, rfl, rfl, rfl⟩
set_option maxRecDepth 100000 in
set_option maxHeartbeats 4000000 in
theorem lp_X4_countLive {l : Launch} {pP : Program} {eE : Env} {sS : State} {mM : MethodId} {aA : Array Value} {bB : List Frame} {tT : Method} {cC : Code} {G : GT} {A : Nat → Prop} {Q : State → Prop}  (S : HS) (ad : AD) (q : AS) (hA : XA S ad (cn q 1)) (hV : XV S ad q)  (C : Cx pP l eE (rmD 4 0 0) sS mM aA bB tT cC cX4_countLive 3 RX4 G A) (kk : V pP l eE (rmD 4 0 0) sS mM aA bB tT cC 3 G A S 0 0 Q 29 [(0, .ref (ad 0 0)), (1, .int (nI (cntP (liveP q) (cn q 1)))), (2, .int (nI (cn q 1)))] []) : ∀ (N : Nat) (i : Nat), (hN9 : cn q 1 + 1 ≤ i + N) → (hi : i ≤ cn q 1) → V pP l eE (rmD 4 0 0) sS mM aA bB tT cC 3 G A S 0 0 Q 4 [(0, .ref (ad 0 0)), (1, .int (nI (cntP (liveP q) i))), (2, .int (nI i))] [] := by
  intro N
  induction N with
  | zero =>
    intro i hN9 hi
    exact absurd hN9 (by omega)
  | succ N ih =>
    intro i hN9 hi
    have hn6 := hA.hn
    refine v_iload_n C 2 rfl rfl dX4_countLive_4 ?_
    refine v_aload_n C 0 rfl rfl dX4_countLive_5 ?_
    refine v_getI C (nI (cn q 1)) fl_RX4_184 hA.k0 hV.v32 dX4_countLive_6 ?_
    refine v_icmp_ge C 29 (by decide) dX4_countLive_9 (fun c9 => ?_) (fun c9 => ?_)
    · obtain rfl : i = cn q 1 := by have := nge c9 (by omega); omega
      exact V.sub [0, 1, 2] rfl kk
    · have hlt := nlt c9 (by omega)
      by_cases hc : zz q 3 i 7 = 0
      · have hv9 : hI S 24 (ad 6 i) = 1 := by rw [hV.t24 i hlt]; exact bI1 hc
        refine v_aload_n C 0 rfl rfl dX4_countLive_12 ?_
        refine v_iload_n C 2 rfl rfl dX4_countLive_13 ?_
        refine v_callVq C (st := []) [.int (nI i)] (c_X4_liveTrackAt_y l S ad (cn q 1) i hA hlt hv9) ml_RX4_187 mi_yX4_liveTrackAt hA.k0 (by decide) (by decide +kernel) rfl (Nat.le_of_ble_eq_true rfl) (Nat.le_of_ble_eq_true rfl) (Nat.le_of_ble_eq_true rfl) (Nat.le_of_ble_eq_true rfl) (Nat.le_of_ble_eq_true rfl) dX4_countLive_14 (fun r u h => ?_) _ rfl
        obtain ⟨rfl, rfl⟩ := h
        refine v_ifnull C dX4_countLive_17 ?_
        refine v_iinc C (nI (cntP (liveP q) (i + 1))) 1 [(1, .int (nI (cntP (liveP q) (i + 1)))), (0, .ref (ad 0 0)), (2, .int (nI i))] rfl (by rw [cntP_t (decide_eq_true hc), ← nI_1]; rfl) (by decide) rfl dX4_countLive_20 ?_
        refine v_iinc C (nI (i + 1)) 2 [(2, .int (nI (i + 1))), (1, .int (nI (cntP (liveP q) (i + 1)))), (0, .ref (ad 0 0))] rfl (by rw [← nI_1]; rfl) (by decide) rfl dX4_countLive_23 ?_
        refine v_goto C 4 (by decide) dX4_countLive_26 ?_
        exact V.sub [2, 1, 0] rfl (ih (i + 1) (by omega) (by omega))
      · have hv9 : hI S 24 (ad 6 i) = 0 := by rw [hV.t24 i hlt]; exact bI0 hc
        refine v_aload_n C 0 rfl rfl dX4_countLive_12 ?_
        refine v_iload_n C 2 rfl rfl dX4_countLive_13 ?_
        refine v_callVq C (st := []) [.int (nI i)] (c_X4_liveTrackAt_d l S ad (cn q 1) i hA hlt hv9) ml_RX4_187 mi_yX4_liveTrackAt hA.k0 (by decide) (by decide +kernel) rfl (Nat.le_of_ble_eq_true rfl) (Nat.le_of_ble_eq_true rfl) (Nat.le_of_ble_eq_true rfl) (Nat.le_of_ble_eq_true rfl) (Nat.le_of_ble_eq_true rfl) dX4_countLive_14 (fun r u h => ?_) _ rfl
        obtain ⟨rfl, rfl⟩ := h
        refine v_ifnullN C 23 (by decide) dX4_countLive_17 ?_
        refine v_iinc C (nI (i + 1)) 2 [(2, .int (nI (i + 1))), (0, .ref (ad 0 0)), (1, .int (nI (cntP (liveP q) i)))] rfl (by rw [← nI_1]; rfl) (by decide) rfl dX4_countLive_23 ?_
        refine v_goto C 4 (by decide) dX4_countLive_26 ?_
        rw [← cntP_f (p := liveP q) (n := i) (decide_eq_false hc)]
        exact V.sub [1, 2, 0] rfl (ih (i + 1) (by omega) (by omega))
set_option maxRecDepth 100000 in
set_option maxHeartbeats 4000000 in
theorem c_X4_countLive (l : Launch) (S : HS) (ad : AD) (q : AS) (hA : XA S ad (cn q 1)) (hV : XV S ad q)  : cM l yX4_countLive cX4_countLive 3 (Option.some Jvm.ClassFile.FieldType.int) 4 [.ref (ad 0 0)] S (pI fun r u => nI (cntP (liveP q) (cn q 1)) = r ∧ S = u) 0 0 := by
  refine cM_intro (by decide +kernel) cd_X4_countLive (Nat.le_of_ble_eq_true rfl) ?_
  intro pP eE sS mM aA bB tT cC G A C hRT hin
  refine V.lvs (lv2 := [(0, .ref (ad 0 0))]) rfl ?_
  refine v_iconst C 0 (by decide) dX4_countLive_0 ?_
  refine v_istore_n C [(1, .int 0), (0, .ref (ad 0 0))] (by decide) rfl rfl dX4_countLive_1 ?_
  refine v_iconst C 0 (by decide) dX4_countLive_2 ?_
  refine v_istore_n C [(2, .int 0), (1, .int 0), (0, .ref (ad 0 0))] (by decide) rfl rfl dX4_countLive_3 ?_
  refine V.sub [2, 1, 0] rfl (lp_X4_countLive S ad q hA hV C ?_ (cn q 1 + 1) 0 (by omega) (by omega))
  refine v_iload_n C 1 rfl rfl dX4_countLive_29 ?_
  exact v_iret C hRT (Nat.le_of_ble_eq_true rfl) (Nat.le_of_ble_eq_true rfl) dX4_countLive_30 ⟨_, rfl, rfl, rfl⟩
