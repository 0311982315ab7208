set_option maxRecDepth 100000 in
set_option maxHeartbeats 4000000 in
theorem c_X5_predicted (l : Launch) (S : HS) (am : AM) (q : AS) (hB : BI q) (hA : NA S am (cn q 1)) (hV : NV S am q) (i t z : Int32) : cM l yX5_predicted cX5_predicted 4 (Option.some Jvm.ClassFile.FieldType.int) 12 [.ref (am 0), .int i, .int t, .int z] S (pI fun r u => (∃ j, j < cn q 1 ∧ i = nI j ∧ isAk t ∧ FrN S u am ∧ hI u 61 (am 0) = 0 ∧ (if z = 0 then iO (ahd q j t.toInt 0 / 16) else iO (ahd q j t.toInt 1 / 16)) = r) ∨ (¬ isTk q i ∧ FrN S u am ∧ hI u 61 (am 0) = 1) ∨ (∃ j, j < cn q 1 ∧ i = nI j ∧ ¬ isAk t ∧ FrN S u am ∧ hI u 61 (am 0) = 2)) 0 0 := by
  refine cM_intro (by decide +kernel) cd_X5_predicted (Nat.le_of_ble_eq_true rfl) ?_
  intro pP eE sS mM aA bB tT cC G A C hRT hin
  refine V.lvs (lv2 := [(0, .ref (am 0)), (1, .int i), (2, .int t), (3, .int z)]) rfl ?_
  refine v_aload_n C 0 rfl rfl dX5_predicted_0 ?_
  refine v_aload_n C 0 rfl rfl dX5_predicted_1 ?_
  refine v_iload_n C 1 rfl rfl dX5_predicted_2 ?_
  refine v_callVi C (st := [.ref (am 0)]) [.int i] (c_X5_isTrack l S am q i hA hV.v44) ml_RX5_199 mi_yX5_isTrack hA.k0 (by decide) (by decide +kernel) rfl (Nat.le_of_ble_eq_true rfl) (Nat.le_of_ble_eq_true rfl) (Nat.le_of_ble_eq_true rfl) (Nat.le_of_ble_eq_true rfl) (Nat.le_of_ble_eq_true rfl) dX5_predicted_3 (fun r u h => ?_) _ rfl
  obtain ⟨rfl, rfl⟩ := h
  refine v_if_ne C 13 (by decide) dX5_predicted_6 (fun c6 => ?_) (fun c6 => ?_)
  · obtain ⟨j, hj, rfl⟩ := ixI2 (bI_n0 c6 : ¬ i < 0 ∧ ¬ nI (cn q 1) ≤ i).1 (bI_n0 c6 : ¬ i < 0 ∧ ¬ nI (cn q 1) ≤ i).2 (by have := hA.hn; omega)
    refine v_iload_n C 2 rfl rfl dX5_predicted_13 ?_
    refine v_callSi C (st := [.ref (am 0)]) [.int t] (c_X5_isAhead l S t) ml_RX5_214 ms_yX5_isAhead rfl (Nat.le_of_ble_eq_true rfl) (Nat.le_of_ble_eq_true rfl) (Nat.le_of_ble_eq_true rfl) (Nat.le_of_ble_eq_true rfl) (Nat.le_of_ble_eq_true rfl) dX5_predicted_14 (fun r u h => ?_) _ rfl
    obtain ⟨rfl, rfl⟩ := h
    refine v_if_ne C 24 (by decide) dX5_predicted_17 (fun c17 => ?_) (fun c17 => ?_)
    · refine v_iconst C 0 (by decide) dX5_predicted_24 ?_
      refine v_putI C fl_RX5_62 hA.k0 rfl rfl dX5_predicted_25 ?_
      refine v_aload_n C 0 rfl rfl dX5_predicted_28 ?_
      refine v_getI C 0 fl_RX5_62 hA.k0 hI_sI1 dX5_predicted_29 ?_
      refine v_if_ne C 60 (by decide) dX5_predicted_32 (fun q => absurd (by decide) q) (fun _ => ?_)
      have hak : isAk t := (bI_n0 c17 : ¬ t < (-9999) ∧ ¬ 39999 < t)
      have htm : bd t.toInt (-20000) 40000 := by have := ak_bd hak; unfold bd at *; omega
      refine v_aload_n C 0 rfl rfl dX5_predicted_35 ?_
      refine v_iload_n C 1 rfl rfl dX5_predicted_36 ?_
      refine v_iload_n C 2 rfl rfl dX5_predicted_37 ?_
      refine v_iload_n C 3 rfl rfl dX5_predicted_38 ?_
      refine v_if_eq C 46 (by decide) dX5_predicted_39 (fun c39 => ?_) (fun c39 => ?_)
      · refine v_iconst C 0 (by decide) dX5_predicted_46 ?_
        have key := c_X5_ahead l (sI S 61 (am 0) 0) am q hB ((FrN.I (v := 0)).toA hA) ((FrN.I (v := 0)).toV hA hV) j hj 0 (by decide) t.toInt htm
        rw [iO_of] at key
        refine v_callVl C (st := []) [.int (nI j), .int t, .int 0] key ml_RX5_114 mi_yX5_ahead hA.k0 (by decide) (by decide +kernel) rfl (Nat.le_of_ble_eq_true rfl) (Nat.le_of_ble_eq_true rfl) (Nat.le_of_ble_eq_true rfl) (Nat.le_of_ble_eq_true rfl) (Nat.le_of_ble_eq_true rfl) dX5_predicted_47 (fun r u h => ?_) _ rfl
        obtain ⟨rfl, rfl⟩ := h
        refine v_ldc2 C kl_RX5_97 dX5_predicted_50 ?_
        refine v_callSl C (st := []) [.long (lO (ahd q j t.toInt 0)), .long 16] (c_J9_floorDiv_f86c9 l (sI S 61 (am 0) 0) (lO (ahd q j t.toInt 0)) 16 (by decide)) ml_RX5_217 ms_yJ9_floorDiv_f86c9 rfl (Nat.le_of_ble_eq_true rfl) (Nat.le_of_ble_eq_true rfl) (Nat.le_of_ble_eq_true rfl) (Nat.le_of_ble_eq_true rfl) (Nat.le_of_ble_eq_true rfl) dX5_predicted_53 (fun r u h => ?_) _ rfl
        obtain ⟨rfl, rfl⟩ := h
        rw [show fdl (lO (ahd q j t.toInt 0)) 16 = lO (ahd q j t.toInt 0 / 16) from fdl_O (b := 16) (by have := ahd_bd hB hj htm 0 (by decide); unfold bd at *; omega) (by decide) (by decide)]
        refine v_l2i C dX5_predicted_56 ?_
        rw [lO_i]
        refine v_goto C 61 (by decide) dX5_predicted_57 ?_
        exact v_iret C hRT (Nat.le_of_ble_eq_true rfl) (Nat.le_of_ble_eq_true rfl) dX5_predicted_61 ⟨_, rfl, Or.inl ⟨j, hj, rfl, hak, FrN.I, hI_sI1, by rw [if_pos c39]⟩⟩
      · refine v_iconst C 1 (by decide) dX5_predicted_42 ?_
        refine v_goto C 47 (by decide) dX5_predicted_43 ?_
        have key := c_X5_ahead l (sI S 61 (am 0) 0) am q hB ((FrN.I (v := 0)).toA hA) ((FrN.I (v := 0)).toV hA hV) j hj 1 (by decide) t.toInt htm
        rw [iO_of] at key
        refine v_callVl C (st := []) [.int (nI j), .int t, .int 1] key ml_RX5_114 mi_yX5_ahead hA.k0 (by decide) (by decide +kernel) rfl (Nat.le_of_ble_eq_true rfl) (Nat.le_of_ble_eq_true rfl) (Nat.le_of_ble_eq_true rfl) (Nat.le_of_ble_eq_true rfl) (Nat.le_of_ble_eq_true rfl) dX5_predicted_47 (fun r u h => ?_) _ rfl
        obtain ⟨rfl, rfl⟩ := h
        refine v_ldc2 C kl_RX5_97 dX5_predicted_50 ?_
        refine v_callSl C (st := []) [.long (lO (ahd q j t.toInt 1)), .long 16] (c_J9_floorDiv_f86c9 l (sI S 61 (am 0) 0) (lO (ahd q j t.toInt 1)) 16 (by decide)) ml_RX5_217 ms_yJ9_floorDiv_f86c9 rfl (Nat.le_of_ble_eq_true rfl) (Nat.le_of_ble_eq_true rfl) (Nat.le_of_ble_eq_true rfl) (Nat.le_of_ble_eq_true rfl) (Nat.le_of_ble_eq_true rfl) dX5_predicted_53 (fun r u h => ?_) _ rfl
        obtain ⟨rfl, rfl⟩ := h
        rw [show fdl (lO (ahd q j t.toInt 1)) 16 = lO (ahd q j t.toInt 1 / 16) from fdl_O (b := 16) (by have := ahd_bd hB hj htm 1 (by decide); unfold bd at *; omega) (by decide) (by decide)]
        refine v_l2i C dX5_predicted_56 ?_
        rw [lO_i]
        refine v_goto C 61 (by decide) dX5_predicted_57 ?_
        exact v_iret C hRT (Nat.le_of_ble_eq_true rfl) (Nat.le_of_ble_eq_true rfl) dX5_predicted_61 ⟨_, rfl, Or.inl ⟨j, hj, rfl, hak, FrN.I, hI_sI1, by rw [if_neg c39]⟩⟩
    · refine v_iconst C 2 (by decide) dX5_predicted_20 ?_
      refine v_goto C 25 (by decide) dX5_predicted_21 ?_
      refine v_putI C fl_RX5_62 hA.k0 rfl rfl dX5_predicted_25 ?_
      refine v_aload_n C 0 rfl rfl dX5_predicted_28 ?_
      refine v_getI C 2 fl_RX5_62 hA.k0 hI_sI1 dX5_predicted_29 ?_
      refine v_if_ne C 60 (by decide) dX5_predicted_32 (fun _ => ?_) (fun q => absurd q (by decide))
      refine v_iconst C (-1) (by decide) dX5_predicted_60 ?_
      exact v_iret C hRT (Nat.le_of_ble_eq_true rfl) (Nat.le_of_ble_eq_true rfl) dX5_predicted_61 ⟨_, rfl, Or.inr (Or.inr ⟨j, hj, rfl, (bI_e0 c17 : ¬ (¬ t < (-9999) ∧ ¬ 39999 < t)), FrN.I, hI_sI1⟩)⟩
  · refine v_iconst C 1 (by decide) dX5_predicted_9 ?_
    refine v_goto C 25 (by decide) dX5_predicted_10 ?_
    refine v_putI C fl_RX5_62 hA.k0 rfl rfl dX5_predicted_25 ?_
    refine v_aload_n C 0 rfl rfl dX5_predicted_28 ?_
    refine v_getI C 1 fl_RX5_62 hA.k0 hI_sI1 dX5_predicted_29 ?_
    refine v_if_ne C 60 (by decide) dX5_predicted_32 (fun _ => ?_) (fun q => absurd q (by decide))
    refine v_iconst C (-1) (by decide) dX5_predicted_60 ?_
    exact v_iret C hRT (Nat.le_of_ble_eq_true rfl) (Nat.le_of_ble_eq_true rfl) dX5_predicted_61 ⟨_, rfl, Or.inr (Or.inl ⟨(bI_e0 c6 : ¬ (¬ i < 0 ∧ ¬ nI (cn q 1) ≤ i)), FrN.I, hI_sI1⟩)⟩
theorem rp_I {x : Int32} {n : Nat} (hn : n ≤ 60) : (¬ x.toInt64 < (0 : Int32).toInt64 ∧ ¬ (nI n - 1).toInt64 < x.toInt64) ↔ (¬ x < 0 ∧ ¬ nI n ≤ x) := (bI_in 0 (nI n - 1)).trans (tk_I hn)
theorem lv_not2 {q : AS} {i : Int32} (h : ¬ (¬ i < 0 ∧ ¬ nI (cn q 1) ≤ i)) (hn : cn q 1 ≤ 60) : ¬ isLv q i := lv_not (Classical.byContradiction fun z => h ⟨fun y => z (Or.inl y), fun y => z (Or.inr y)⟩) hn
set_option maxRecDepth 100000 in
set_option maxHeartbeats 4000000 in
theorem c_X5_isAsked (l : Launch) (S : HS) (am : AM) (q : AS) (hB : BI q) (hA : NA S am (cn q 1)) (hV : NV S am q) (i t : Int32) : cM l yX5_isAsked cX5_isAsked 3 (Option.some Jvm.ClassFile.FieldType.boolean) 8 [.ref (am 0), .int i, .int t] S (pI fun r u => (∃ k, k < cn q 0 ∧ i = nI k ∧ ∃ j, j < cn q 1 ∧ t = nI j ∧ zz q 3 j 7 = 0 ∧ (sI S 61 (am 0) 0) = u ∧ 1 = r) ∨ (¬ isRp q i ∧ (sI S 61 (am 0) 1) = u ∧ 0 = r) ∨ ((∃ k, k < cn q 0 ∧ i = nI k) ∧ ¬ isLv q t ∧ (sI S 61 (am 0) 2) = u ∧ 0 = r)) 0 0 := by
  refine cM_intro (by decide +kernel) cd_X5_isAsked (Nat.le_of_ble_eq_true rfl) ?_
  intro pP eE sS mM aA bB tT cC G A C hRT hin
  refine V.lvs (lv2 := [(0, .ref (am 0)), (1, .int i), (2, .int t)]) rfl ?_
  refine v_aload_n C 0 rfl rfl dX5_isAsked_0 ?_
  refine v_iload_n C 1 rfl rfl dX5_isAsked_1 ?_
  refine v_i2l C dX5_isAsked_2 ?_
  refine v_lconst C 0 (by decide) dX5_isAsked_3 ?_
  refine v_aload_n C 0 rfl rfl dX5_isAsked_4 ?_
  refine v_getI C (nI (cn q 0)) fl_RX5_111 hA.k0 hV.v50 dX5_isAsked_5 ?_
  refine v_iconst C 1 (by decide) dX5_isAsked_8 ?_
  refine v_isub C dX5_isAsked_9 ?_
  refine v_i2l C dX5_isAsked_10 ?_
  refine v_callSi C (st := [.ref (am 0)]) [.long i.toInt64, .long 0, .long (((nI (cn q 0)) - 1).toInt64)] (c_X5_in l S i.toInt64 0 (((nI (cn q 0)) - 1).toInt64)) ml_RX5_67 ms_yX5_in rfl (Nat.le_of_ble_eq_true rfl) (Nat.le_of_ble_eq_true rfl) (Nat.le_of_ble_eq_true rfl) (Nat.le_of_ble_eq_true rfl) (Nat.le_of_ble_eq_true rfl) dX5_isAsked_11 (fun r u h => ?_) _ rfl
  obtain ⟨rfl, rfl⟩ := h
  refine v_if_ne C 21 (by decide) dX5_isAsked_14 (fun c14 => ?_) (fun c14 => ?_)
  · obtain ⟨k, hk, rfl⟩ := ixI2 (n := cn q 0) ((rp_I (by have := hB.b0; omega)).mp (bI_n0 c14)).1 ((rp_I (by have := hB.b0; omega)).mp (bI_n0 c14)).2 (by have := hB.b0; omega)
    refine v_aload_n C 0 rfl rfl dX5_isAsked_21 ?_
    refine v_iload_n C 2 rfl rfl dX5_isAsked_22 ?_
    refine v_callVi C (st := [.ref (am 0)]) [.int t] (c_X5_isTrack l S am q t hA hV.v44) ml_RX5_199 mi_yX5_isTrack hA.k0 (by decide) (by decide +kernel) rfl (Nat.le_of_ble_eq_true rfl) (Nat.le_of_ble_eq_true rfl) (Nat.le_of_ble_eq_true rfl) (Nat.le_of_ble_eq_true rfl) (Nat.le_of_ble_eq_true rfl) dX5_isAsked_23 (fun r u h => ?_) _ rfl
    obtain ⟨rfl, rfl⟩ := h
    refine v_if_eq C 37 (by decide) dX5_isAsked_26 (fun c26 => ?_) (fun c26 => ?_)
    · refine v_iconst C 2 (by decide) dX5_isAsked_37 ?_
      refine v_goto C 42 (by decide) dX5_isAsked_38 ?_
      refine v_putI C fl_RX5_62 hA.k0 rfl rfl dX5_isAsked_42 ?_
      refine v_aload_n C 0 rfl rfl dX5_isAsked_45 ?_
      refine v_getI C 2 fl_RX5_62 hA.k0 hI_sI1 dX5_isAsked_46 ?_
      refine v_if_ne C 56 (by decide) dX5_isAsked_49 (fun _ => ?_) (fun q => absurd q (by decide))
      refine v_iconst C 0 (by decide) dX5_isAsked_56 ?_
      exact v_zret C rfl hRT (Nat.le_of_ble_eq_true rfl) (Nat.le_of_ble_eq_true rfl) dX5_isAsked_57 ⟨_, rfl, Or.inr (Or.inr ⟨⟨k, hk, rfl⟩, lv_not2 (bI_e0 c26 : ¬ (¬ t < 0 ∧ ¬ nI (cn q 1) ≤ t)) hA.hn, rfl, rfl⟩)⟩
    · obtain ⟨j, hj, rfl⟩ := ixI2 (n := cn q 1) (bI_n0 c26 : ¬ t < 0 ∧ ¬ nI (cn q 1) ≤ t).1 (bI_n0 c26 : ¬ t < 0 ∧ ¬ nI (cn q 1) ≤ t).2 (by have := hA.hn; omega)
      refine v_aload_n C 0 rfl rfl dX5_isAsked_29 ?_
      refine v_iload_n C 2 rfl rfl dX5_isAsked_30 ?_
      refine v_callVi C (st := [.ref (am 0)]) [.int (nI j)] (c_X5_isLive l S am q hB hA hV j hj) ml_RX5_123 mi_yX5_isLive hA.k0 (by decide) (by decide +kernel) rfl (Nat.le_of_ble_eq_true rfl) (Nat.le_of_ble_eq_true rfl) (Nat.le_of_ble_eq_true rfl) (Nat.le_of_ble_eq_true rfl) (Nat.le_of_ble_eq_true rfl) dX5_isAsked_31 (fun r u h => ?_) _ rfl
      obtain ⟨rfl, rfl⟩ := h
      refine v_if_ne C 41 (by decide) dX5_isAsked_34 (fun c34 => ?_) (fun c34 => ?_)
      · refine v_iconst C 0 (by decide) dX5_isAsked_41 ?_
        refine v_putI C fl_RX5_62 hA.k0 rfl rfl dX5_isAsked_42 ?_
        refine v_aload_n C 0 rfl rfl dX5_isAsked_45 ?_
        refine v_getI C 0 fl_RX5_62 hA.k0 hI_sI1 dX5_isAsked_46 ?_
        refine v_if_ne C 56 (by decide) dX5_isAsked_49 (fun q => absurd (by decide) q) (fun _ => ?_)
        refine v_iconst C 1 (by decide) dX5_isAsked_52 ?_
        refine v_goto C 57 (by decide) dX5_isAsked_53 ?_
        exact v_zret C rfl hRT (Nat.le_of_ble_eq_true rfl) (Nat.le_of_ble_eq_true rfl) dX5_isAsked_57 ⟨_, rfl, Or.inl ⟨k, hk, rfl, j, hj, rfl, bI_n0 c34, rfl, rfl⟩⟩
      · refine v_iconst C 2 (by decide) dX5_isAsked_37 ?_
        refine v_goto C 42 (by decide) dX5_isAsked_38 ?_
        refine v_putI C fl_RX5_62 hA.k0 rfl rfl dX5_isAsked_42 ?_
        refine v_aload_n C 0 rfl rfl dX5_isAsked_45 ?_
        refine v_getI C 2 fl_RX5_62 hA.k0 hI_sI1 dX5_isAsked_46 ?_
        refine v_if_ne C 56 (by decide) dX5_isAsked_49 (fun _ => ?_) (fun q => absurd q (by decide))
        refine v_iconst C 0 (by decide) dX5_isAsked_56 ?_
        exact v_zret C rfl hRT (Nat.le_of_ble_eq_true rfl) (Nat.le_of_ble_eq_true rfl) dX5_isAsked_57 ⟨_, rfl, Or.inr (Or.inr ⟨⟨k, hk, rfl⟩, lv_dead (by have := hA.hn; omega) (bI_e0 c34) hA.hn, rfl, rfl⟩)⟩
  · refine v_iconst C 1 (by decide) dX5_isAsked_17 ?_
    refine v_goto C 42 (by decide) dX5_isAsked_18 ?_
    refine v_putI C fl_RX5_62 hA.k0 rfl rfl dX5_isAsked_42 ?_
    refine v_aload_n C 0 rfl rfl dX5_isAsked_45 ?_
    refine v_getI C 1 fl_RX5_62 hA.k0 hI_sI1 dX5_isAsked_46 ?_
    refine v_if_ne C 56 (by decide) dX5_isAsked_49 (fun _ => ?_) (fun q => absurd q (by decide))
    refine v_iconst C 0 (by decide) dX5_isAsked_56 ?_
    exact v_zret C rfl hRT (Nat.le_of_ble_eq_true rfl) (Nat.le_of_ble_eq_true rfl) dX5_isAsked_57 ⟨_, rfl, Or.inr (Or.inl ⟨fun z => bI_e0 c14 ((rp_I (by have := hB.b0; omega)).mpr z), rfl, rfl⟩)⟩
set_option maxRecDepth 100000 in
set_option maxHeartbeats 4000000 in
theorem c_X5_distance (l : Launch) (S : HS) (am : AM) (q : AS) (hB : BI q) (hA : NA S am (cn q 1)) (hV : NV S am q) (i t : Int32) : cM l yX5_distance cX5_distance 3 (Option.some Jvm.ClassFile.FieldType.long) 14 [.ref (am 0), .int i, .int t] S (pL fun r u => (∃ k, k < cn q 0 ∧ i = nI k ∧ ∃ j, j < cn q 1 ∧ t = nI j ∧ zz q 3 j 7 = 0 ∧ FrN S u am ∧ hI u 61 (am 0) = 0 ∧ lO (dst q k j) = r) ∨ (¬ isRp q i ∧ FrN S u am ∧ hI u 61 (am 0) = 1) ∨ ((∃ k, k < cn q 0 ∧ i = nI k) ∧ ¬ isLv q t ∧ FrN S u am ∧ hI u 61 (am 0) = 2)) 0 0 := by
  refine cM_intro (by decide +kernel) cd_X5_distance (Nat.le_of_ble_eq_true rfl) ?_
  intro pP eE sS mM aA bB tT cC G A C hRT hin
  refine V.lvs (lv2 := [(0, .ref (am 0)), (1, .int i), (2, .int t)]) rfl ?_
  refine v_aload_n C 0 rfl rfl dX5_distance_0 ?_
  refine v_iload_n C 1 rfl rfl dX5_distance_1 ?_
  refine v_iload_n C 2 rfl rfl dX5_distance_2 ?_
  refine v_callVi C (st := []) [.int i, .int t] (c_X5_isAsked l S am q hB hA hV i t) ml_RX5_202 mi_yX5_isAsked hA.k0 (by decide) (by decide +kernel) rfl (Nat.le_of_ble_eq_true rfl) (Nat.le_of_ble_eq_true rfl) (Nat.le_of_ble_eq_true rfl) (Nat.le_of_ble_eq_true rfl) (Nat.le_of_ble_eq_true rfl) dX5_distance_3 (fun r u h => ?_) _ rfl
  rcases h with ⟨k, hk, rfl, j, hj, rfl, hl7, rfl, rfl⟩ | ⟨hi, rfl, rfl⟩ | ⟨hi, hi2, rfl, rfl⟩
  · have hA1 : NA (sI S 61 (am 0) 0) am (cn q 1) := FrN.I.toA hA
    have hV1 : NV (sI S 61 (am 0) 0) am q := FrN.I.toV hA hV
    refine v_if_eq C 18 (by decide) dX5_distance_6 (fun q => absurd q (by decide)) (fun _ => ?_)
    refine v_aload_n C 0 rfl rfl dX5_distance_9 ?_
    refine v_iload_n C 1 rfl rfl dX5_distance_10 ?_
    refine v_iload_n C 2 rfl rfl dX5_distance_11 ?_
    refine v_callVl C (st := []) [.int (nI k), .int (nI j)] (c_X5_distanceOf l (sI S 61 (am 0) 0) am q hB hA1 hV1 k hk j hj) ml_RX5_126 mi_yX5_distanceOf hA.k0 (by decide) (by decide +kernel) rfl (Nat.le_of_ble_eq_true rfl) (Nat.le_of_ble_eq_true rfl) (Nat.le_of_ble_eq_true rfl) (Nat.le_of_ble_eq_true rfl) (Nat.le_of_ble_eq_true rfl) dX5_distance_12 (fun r u h => ?_) _ rfl
    obtain ⟨rfl, rfl⟩ := h
    refine v_goto C 21 (by decide) dX5_distance_15 ?_
    exact v_lret C hRT (Nat.le_of_ble_eq_true rfl) (Nat.le_of_ble_eq_true rfl) dX5_distance_21 ⟨_, rfl, Or.inl ⟨k, hk, rfl, j, hj, rfl, hl7, FrN.I, hI_sI1, rfl⟩⟩
  · have htt := trivial
    refine v_if_eq C 18 (by decide) dX5_distance_6 (fun _ => ?_) (fun q => absurd (by decide) q)
    refine v_ldc2 C kl_RX5_138 dX5_distance_18 ?_
    exact v_lret C hRT (Nat.le_of_ble_eq_true rfl) (Nat.le_of_ble_eq_true rfl) dX5_distance_21 ⟨_, rfl, Or.inr (Or.inl ⟨hi, FrN.I, hI_sI1⟩)⟩
  · have htt := trivial
    refine v_if_eq C 18 (by decide) dX5_distance_6 (fun _ => ?_) (fun q => absurd (by decide) q)
    refine v_ldc2 C kl_RX5_138 dX5_distance_18 ?_
    exact v_lret C hRT (Nat.le_of_ble_eq_true rfl) (Nat.le_of_ble_eq_true rfl) dX5_distance_21 ⟨_, rfl, Or.inr (Or.inr ⟨hi, hi2, FrN.I, hI_sI1⟩)⟩
set_option maxRecDepth 100000 in
set_option maxHeartbeats 4000000 in
theorem c_X5_canTake (l : Launch) (S : HS) (am : AM) (q : AS) (hB : BI q) (hA : NA S am (cn q 1)) (hV : NV S am q) (i t : Int32) : cM l yX5_canTake cX5_canTake 3 (Option.some Jvm.ClassFile.FieldType.boolean) 14 [.ref (am 0), .int i, .int t] S (pI fun r u => (∃ k, k < cn q 0 ∧ i = nI k ∧ ∃ j, j < cn q 1 ∧ t = nI j ∧ zz q 3 j 7 = 0 ∧ FrN S u am ∧ hI u 61 (am 0) = 0 ∧ bI (0 ≤ ctk q k j) = r) ∨ (¬ isRp q i ∧ FrN S u am ∧ hI u 61 (am 0) = 1) ∨ ((∃ k, k < cn q 0 ∧ i = nI k) ∧ ¬ isLv q t ∧ FrN S u am ∧ hI u 61 (am 0) = 2)) 0 0 := by
  refine cM_intro (by decide +kernel) cd_X5_canTake (Nat.le_of_ble_eq_true rfl) ?_
  intro pP eE sS mM aA bB tT cC G A C hRT hin
  refine V.lvs (lv2 := [(0, .ref (am 0)), (1, .int i), (2, .int t)]) rfl ?_
  refine v_aload_n C 0 rfl rfl dX5_canTake_0 ?_
  refine v_iload_n C 1 rfl rfl dX5_canTake_1 ?_
  refine v_iload_n C 2 rfl rfl dX5_canTake_2 ?_
  refine v_callVi C (st := []) [.int i, .int t] (c_X5_isAsked l S am q hB hA hV i t) ml_RX5_202 mi_yX5_isAsked hA.k0 (by decide) (by decide +kernel) rfl (Nat.le_of_ble_eq_true rfl) (Nat.le_of_ble_eq_true rfl) (Nat.le_of_ble_eq_true rfl) (Nat.le_of_ble_eq_true rfl) (Nat.le_of_ble_eq_true rfl) dX5_canTake_3 (fun r u h => ?_) _ rfl
  rcases h with ⟨k, hk, rfl, j, hj, rfl, hl7, rfl, rfl⟩ | ⟨hi, rfl, rfl⟩ | ⟨hi, hi2, rfl, rfl⟩
  · have hA1 : NA (sI S 61 (am 0) 0) am (cn q 1) := FrN.I.toA hA
    have hV1 : NV (sI S 61 (am 0) 0) am q := FrN.I.toV hA hV
    refine v_if_eq C 22 (by decide) dX5_canTake_6 (fun q => absurd q (by decide)) (fun _ => ?_)
    refine v_aload_n C 0 rfl rfl dX5_canTake_9 ?_
    refine v_iload_n C 1 rfl rfl dX5_canTake_10 ?_
    refine v_iload_n C 2 rfl rfl dX5_canTake_11 ?_
    refine v_callVi C (st := []) [.int (nI k), .int (nI j)] (c_X5_takes l (sI S 61 (am 0) 0) am q hB hA1 hV1 k hk j hj) ml_RX5_140 mi_yX5_takes hA.k0 (by decide) (by decide +kernel) rfl (Nat.le_of_ble_eq_true rfl) (Nat.le_of_ble_eq_true rfl) (Nat.le_of_ble_eq_true rfl) (Nat.le_of_ble_eq_true rfl) (Nat.le_of_ble_eq_true rfl) dX5_canTake_12 (fun r u h => ?_) _ rfl
    obtain ⟨rfl, rfl⟩ := h
    refine v_if_eq C 22 (by decide) dX5_canTake_15 (fun c15 => ?_) (fun c15 => ?_)
    · refine v_iconst C 0 (by decide) dX5_canTake_22 ?_
      exact v_zret C rfl hRT (Nat.le_of_ble_eq_true rfl) (Nat.le_of_ble_eq_true rfl) dX5_canTake_23 ⟨_, rfl, Or.inl ⟨k, hk, rfl, j, hj, rfl, hl7, FrN.I, hI_sI1, bI0 (fun z => bI_e0 c15 ⟨hl7, z⟩)⟩⟩
    · refine v_iconst C 1 (by decide) dX5_canTake_18 ?_
      refine v_goto C 23 (by decide) dX5_canTake_19 ?_
      exact v_zret C rfl hRT (Nat.le_of_ble_eq_true rfl) (Nat.le_of_ble_eq_true rfl) dX5_canTake_23 ⟨_, rfl, Or.inl ⟨k, hk, rfl, j, hj, rfl, hl7, FrN.I, hI_sI1, bI1 (bI_n0 c15).2⟩⟩
  · have htt := trivial
    refine v_if_eq C 22 (by decide) dX5_canTake_6 (fun _ => ?_) (fun q => absurd (by decide) q)
    refine v_iconst C 0 (by decide) dX5_canTake_22 ?_
    exact v_zret C rfl hRT (Nat.le_of_ble_eq_true rfl) (Nat.le_of_ble_eq_true rfl) dX5_canTake_23 ⟨_, rfl, Or.inr (Or.inl ⟨hi, FrN.I, hI_sI1⟩)⟩
  · have htt := trivial
    refine v_if_eq C 22 (by decide) dX5_canTake_6 (fun _ => ?_) (fun q => absurd (by decide) q)
    refine v_iconst C 0 (by decide) dX5_canTake_22 ?_
    exact v_zret C rfl hRT (Nat.le_of_ble_eq_true rfl) (Nat.le_of_ble_eq_true rfl) dX5_canTake_23 ⟨_, rfl, Or.inr (Or.inr ⟨hi, hi2, FrN.I, hI_sI1⟩)⟩
