set_option maxRecDepth 100000 in
set_option maxHeartbeats 4000000 in
theorem c_J9_floorDiv_f86c9 (l : Launch) (S : HS) (x y : Int64) (hy : ¬ y = 0) : cM l yJ9_floorDiv_f86c9 cJ9_floorDiv_f86c9 6 (Option.some Jvm.ClassFile.FieldType.long) 2 [.long x, .long y] S (pL fun r u => fdl x y = r ∧ S = u) 0 0 := by
  refine cM_intro (by decide +kernel) cd_J9_floorDiv_f86c9 (Nat.le_of_ble_eq_true rfl) ?_
  intro pP eE sS mM aA bB tT cC G A C hRT hin
  refine V.lvs (lv2 := [(0, .long x), (2, .long y)]) rfl ?_
  refine v_lload_n C 0 rfl rfl dJ9_floorDiv_f86c9_0 ?_
  refine v_lload_n C 1 rfl rfl dJ9_floorDiv_f86c9_1 ?_
  refine v_ldiv C hy dJ9_floorDiv_f86c9_2 ?_
  refine v_lstore C [(4, .long (x / y)), (0, .long x), (2, .long y)] (by decide) rfl dJ9_floorDiv_f86c9_3 ?_
  refine v_lload_n C 1 rfl rfl dJ9_floorDiv_f86c9_5 ?_
  refine v_lload_n C 2 rfl rfl dJ9_floorDiv_f86c9_6 ?_
  refine v_lxor C dJ9_floorDiv_f86c9_7 ?_
  refine v_lconst C 0 (by decide) dJ9_floorDiv_f86c9_8 ?_
  refine v_lcmp C dJ9_floorDiv_f86c9_9 ?_
  refine v_if_ge C 27 (by decide) dJ9_floorDiv_f86c9_10 (fun c10 => ?_) (fun c10 => ?_)
  · refine v_lload C 0 rfl dJ9_floorDiv_f86c9_27 ?_
    exact v_lret C hRT (Nat.le_of_ble_eq_true rfl) (Nat.le_of_ble_eq_true rfl) dJ9_floorDiv_f86c9_29 ⟨_, rfl, by unfold fdl; rw [if_neg (Int32.not_lt.mpr c10)], rfl⟩
  · refine v_lload C 0 rfl dJ9_floorDiv_f86c9_13 ?_
    refine v_lload_n C 2 rfl rfl dJ9_floorDiv_f86c9_15 ?_
    refine v_lmul C dJ9_floorDiv_f86c9_16 ?_
    refine v_lload_n C 1 rfl rfl dJ9_floorDiv_f86c9_17 ?_
    refine v_lcmp C dJ9_floorDiv_f86c9_18 ?_
    refine v_if_eq C 27 (by decide) dJ9_floorDiv_f86c9_19 (fun c19 => ?_) (fun c19 => ?_)
    · refine v_lload C 0 rfl dJ9_floorDiv_f86c9_27 ?_
      exact v_lret C hRT (Nat.le_of_ble_eq_true rfl) (Nat.le_of_ble_eq_true rfl) dJ9_floorDiv_f86c9_29 ⟨_, rfl, by unfold fdl; rw [if_pos (Int32.not_le.mp c10), if_pos c19], rfl⟩
    · refine v_lload C 0 rfl dJ9_floorDiv_f86c9_22 ?_
      refine v_lconst C 1 (by decide) dJ9_floorDiv_f86c9_24 ?_
      refine v_lsub C dJ9_floorDiv_f86c9_25 ?_
      exact v_lret C hRT (Nat.le_of_ble_eq_true rfl) (Nat.le_of_ble_eq_true rfl) dJ9_floorDiv_f86c9_26 ⟨_, rfl, by unfold fdl; rw [if_pos (Int32.not_le.mp c10), if_neg c19], rfl⟩
theorem xor_sign64 {a b : Int} (h1 : -9223372036854775808 ≤ a) (h2 : a < 9223372036854775808) (h4 : b < 9223372036854775808) (hb : 0 < b) : (lO a ^^^ lO b < 0) ↔ a < 0 := by
  have e1 : (lO a).toBitVec.toInt = a := lO_toInt h1 h2
  have e2 : (lO b).toBitVec.toInt = b := lO_toInt (by omega) h4
  have e3 : (lO a ^^^ lO b).toBitVec = (lO a).toBitVec ^^^ (lO b).toBitVec := Int64.toBitVec_xor ..
  have m1 : (lO a).toBitVec.msb = decide (a < 0) := by rw [BitVec.msb_eq_toInt, e1]
  have m2 : (lO b).toBitVec.msb = false := by rw [BitVec.msb_eq_toInt, e2]; exact decide_eq_false (by omega)
  have m3 : (lO a ^^^ lO b).toBitVec.msb = decide (a < 0) := by rw [e3, BitVec.msb_xor, m1, m2, Bool.xor_false]
  rw [BitVec.msb_eq_toInt] at m3
  have m5 : (lO a ^^^ lO b < 0) ↔ (lO a ^^^ lO b).toBitVec.toInt < 0 := Int64.lt_iff_toInt_lt
  rw [m5]
  constructor
  · intro h
    exact of_decide_eq_true (m3.symm.trans (decide_eq_true h))
  · intro h
    exact of_decide_eq_true (m3.trans (decide_eq_true h))
theorem fdl_O {a b : Int} (h1 : bd a (-4000000000000000000) 4000000000000000000) (h4 : b < 1000) (hb : 0 < b) : fdl (lO a) (lO b) = lO (a / b) := by
  have hq := lO_div (a := a) (b := b) (by unfold bd at *; omega) (by unfold bd at *; omega) (by omega) (by omega) (by omega)
  unfold fdl
  by_cases ha : a < 0
  · rw [if_pos ((lg_cmp_lt _ _).mpr ((xor_sign64 (by unfold bd at *; omega) (by unfold bd at *; omega) (by omega) hb).mpr ha)), hq, lO_mul]
    have hm := Int.tmod_add_tdiv_mul a b
    have hm2 : -b < a.tmod b ∧ a.tmod b < b := ⟨by have := Int.lt_tmod_of_pos a hb; omega, Int.tmod_lt_of_pos a hb⟩
    have hc : lg_cmp (lO (a.tdiv b * b)) (lO a) = 0 ↔ b ∣ a := by
      rw [← tdiv_dvd hb, lg_cmp_eq]
      exact lO_eq (by unfold bd at *; omega) (by unfold bd at *; omega) (by unfold bd at *; omega) (by unfold bd at *; omega)
    rw [floor_t hb ha]
    by_cases hd : b ∣ a
    · rw [if_pos (hc.mpr hd), if_pos hd]
    · rw [if_neg (fun z => hd (hc.mp z)), if_neg hd, show (1 : Int64) = lO 1 from rfl, lO_sub]
  · rw [if_neg (fun z => ha ((xor_sign64 (by unfold bd at *; omega) (by unfold bd at *; omega) (by omega) hb).mp ((lg_cmp_lt _ _).mp z))), hq, Int.tdiv_eq_ediv_of_nonneg (by omega)]
set_option maxRecDepth 100000 in
set_option maxHeartbeats 4000000 in
theorem c_X5_stateOf (l : Launch) (S : HS) (am : AM) (q : AS) (hA : NA S am (cn q 1)) (hV : NV S am q) (i x : Int32) : cM l yX5_stateOf cX5_stateOf 3 (Option.some Jvm.ClassFile.FieldType.int) 10 [.ref (am 0), .int i, .int x] S (pI fun r u => (∃ j, j < cn q 1 ∧ i = nI j ∧ isIn x 0 3 ∧ ∃ k, k < 4 ∧ x = nI k ∧ FrN S u am ∧ hI u 61 (am 0) = 0 ∧ iO (zz q 3 j (1 + k)) = r) ∨ (¬ isTk q i ∧ FrN S u am ∧ hI u 61 (am 0) = 1) ∨ (∃ j, j < cn q 1 ∧ i = nI j ∧ ¬ isIn x 0 3 ∧ FrN S u am ∧ hI u 61 (am 0) = 2)) 0 0 := by
  refine cM_intro (by decide +kernel) cd_X5_stateOf (Nat.le_of_ble_eq_true rfl) ?_
  intro pP eE sS mM aA bB tT cC G A C hRT hin
  refine V.lvs (lv2 := [(0, .ref (am 0)), (1, .int i), (2, .int x)]) rfl ?_
  refine v_aload_n C 0 rfl rfl dX5_stateOf_0 ?_
  refine v_aload_n C 0 rfl rfl dX5_stateOf_1 ?_
  refine v_iload_n C 1 rfl rfl dX5_stateOf_2 ?_
  refine v_callVi C (st := [.ref (am 0)]) [.int i] (c_X5_isTrack l S am q i hA hV.v44) ml_RX5_199 mi_yX5_isTrack hA.k0 (by decide) (by decide +kernel) rfl (Nat.le_of_ble_eq_true rfl) (Nat.le_of_ble_eq_true rfl) (Nat.le_of_ble_eq_true rfl) (Nat.le_of_ble_eq_true rfl) (Nat.le_of_ble_eq_true rfl) dX5_stateOf_3 (fun r u h => ?_) _ rfl
  obtain ⟨rfl, rfl⟩ := h
  refine v_if_ne C 13 (by decide) dX5_stateOf_6 (fun c6 => ?_) (fun c6 => ?_)
  · obtain ⟨j, hj, rfl⟩ := ixI2 (bI_n0 c6 : ¬ i < 0 ∧ ¬ nI (cn q 1) ≤ i).1 (bI_n0 c6 : ¬ i < 0 ∧ ¬ nI (cn q 1) ≤ i).2 (by have := hA.hn; omega)
    refine v_iload_n C 2 rfl rfl dX5_stateOf_13 ?_
    refine v_i2l C dX5_stateOf_14 ?_
    refine v_lconst C 0 (by decide) dX5_stateOf_15 ?_
    refine v_ldc2 C kl_RX5_65 dX5_stateOf_16 ?_
    refine v_callSi C (st := [.ref (am 0)]) [.long x.toInt64, .long 0, .long 3] (c_X5_in l S x.toInt64 0 3) ml_RX5_67 ms_yX5_in rfl (Nat.le_of_ble_eq_true rfl) (Nat.le_of_ble_eq_true rfl) (Nat.le_of_ble_eq_true rfl) (Nat.le_of_ble_eq_true rfl) (Nat.le_of_ble_eq_true rfl) dX5_stateOf_19 (fun r u h => ?_) _ rfl
    obtain ⟨rfl, rfl⟩ := h
    refine v_if_ne C 29 (by decide) dX5_stateOf_22 (fun c22 => ?_) (fun c22 => ?_)
    · refine v_iconst C 0 (by decide) dX5_stateOf_29 ?_
      refine v_putI C fl_RX5_62 hA.k0 rfl rfl dX5_stateOf_30 ?_
      refine v_aload_n C 0 rfl rfl dX5_stateOf_33 ?_
      refine v_getI C 0 fl_RX5_62 hA.k0 hI_sI1 dX5_stateOf_34 ?_
      refine v_if_ne C 51 (by decide) dX5_stateOf_37 (fun q => absurd (by decide) q) (fun _ => ?_)
      have hx3 : isIn x 0 3 := (bI_in 0 3).mp (bI_n0 c22)
      obtain ⟨k, hk, rfl⟩ := pt_of hx3
      refine v_aload_n C 0 rfl rfl dX5_stateOf_40 ?_
      refine v_iload_n C 1 rfl rfl dX5_stateOf_41 ?_
      refine v_iconst C 1 (by decide) dX5_stateOf_42 ?_
      refine v_iload_n C 2 rfl rfl dX5_stateOf_43 ?_
      refine v_iadd C dX5_stateOf_44 ?_
      rw [show (1 : Int32) + nI k = nI (1 + k) from nI_s 1 k]
      refine v_callVi C (st := []) [.int (nI j), .int (nI (1 + k))] (c_X5_of l (sI S 61 (am 0) 0) am (cn q 1) j (1 + k) (by have := (((FrN.I (v := 0)).toA hA)).hn; omega) (by omega) ((FrN.I (v := 0)).toA hA)) ml_RX5_74 mi_yX5_of hA.k0 (by decide) (by decide +kernel) rfl (Nat.le_of_ble_eq_true rfl) (Nat.le_of_ble_eq_true rfl) (Nat.le_of_ble_eq_true rfl) (Nat.le_of_ble_eq_true rfl) (Nat.le_of_ble_eq_true rfl) dX5_stateOf_45 (fun r u h => ?_) _ rfl
      obtain ⟨rfl, rfl⟩ := h
      rw [(((FrN.I (v := 0)).toV hA hV)).m j hj (1 + k) (by omega)]
      refine v_goto C 52 (by decide) dX5_stateOf_48 ?_
      exact v_iret C hRT (Nat.le_of_ble_eq_true rfl) (Nat.le_of_ble_eq_true rfl) dX5_stateOf_52 ⟨_, rfl, Or.inl ⟨j, hj, rfl, hx3, k, hk, rfl, FrN.I, hI_sI1, rfl⟩⟩
    · refine v_iconst C 2 (by decide) dX5_stateOf_25 ?_
      refine v_goto C 30 (by decide) dX5_stateOf_26 ?_
      refine v_putI C fl_RX5_62 hA.k0 rfl rfl dX5_stateOf_30 ?_
      refine v_aload_n C 0 rfl rfl dX5_stateOf_33 ?_
      refine v_getI C 2 fl_RX5_62 hA.k0 hI_sI1 dX5_stateOf_34 ?_
      refine v_if_ne C 51 (by decide) dX5_stateOf_37 (fun _ => ?_) (fun q => absurd q (by decide))
      refine v_iconst C (-1) (by decide) dX5_stateOf_51 ?_
      exact v_iret C hRT (Nat.le_of_ble_eq_true rfl) (Nat.le_of_ble_eq_true rfl) dX5_stateOf_52 ⟨_, rfl, Or.inr (Or.inr ⟨j, hj, rfl, fun z => bI_e0 c22 ((bI_in 0 3).mpr z), FrN.I, hI_sI1⟩)⟩
  · refine v_iconst C 1 (by decide) dX5_stateOf_9 ?_
    refine v_goto C 30 (by decide) dX5_stateOf_10 ?_
    refine v_putI C fl_RX5_62 hA.k0 rfl rfl dX5_stateOf_30 ?_
    refine v_aload_n C 0 rfl rfl dX5_stateOf_33 ?_
    refine v_getI C 1 fl_RX5_62 hA.k0 hI_sI1 dX5_stateOf_34 ?_
    refine v_if_ne C 51 (by decide) dX5_stateOf_37 (fun _ => ?_) (fun q => absurd q (by decide))
    refine v_iconst C (-1) (by decide) dX5_stateOf_51 ?_
    exact v_iret C hRT (Nat.le_of_ble_eq_true rfl) (Nat.le_of_ble_eq_true rfl) dX5_stateOf_52 ⟨_, rfl, Or.inr (Or.inl ⟨(bI_e0 c6 : ¬ (¬ i < 0 ∧ ¬ nI (cn q 1) ≤ i)), FrN.I, hI_sI1⟩)⟩
set_option maxRecDepth 100000 in
set_option maxHeartbeats 4000000 in
theorem c_X5_mergedInto (l : Launch) (S : HS) (am : AM) (q : AS) (hB : BI q) (hA : NA S am (cn q 1)) (hV : NV S am q) (i : Int32) : cM l yX5_mergedInto cX5_mergedInto 2 (Option.some Jvm.ClassFile.FieldType.int) 10 [.ref (am 0), .int i] S (pI fun r u => (∃ j, j < cn q 1 ∧ i = nI j ∧ zz q 3 j 7 = 2 ∧ FrN S u am ∧ hI u 61 (am 0) = 0 ∧ iO (zz q 3 j 8) = r) ∨ (¬ isTk q i ∧ FrN S u am ∧ hI u 61 (am 0) = 1) ∨ (∃ j, j < cn q 1 ∧ i = nI j ∧ ¬ zz q 3 j 7 = 2 ∧ FrN S u am ∧ hI u 61 (am 0) = 2)) 0 0 := by
  refine cM_intro (by decide +kernel) cd_X5_mergedInto (Nat.le_of_ble_eq_true rfl) ?_
  intro pP eE sS mM aA bB tT cC G A C hRT hin
  refine V.lvs (lv2 := [(0, .ref (am 0)), (1, .int i)]) rfl ?_
  refine v_aload_n C 0 rfl rfl dX5_mergedInto_0 ?_
  refine v_aload_n C 0 rfl rfl dX5_mergedInto_1 ?_
  refine v_iload_n C 1 rfl rfl dX5_mergedInto_2 ?_
  refine v_callVi C (st := [.ref (am 0)]) [.int i] (c_X5_isTrack l S am q i hA hV.v44) ml_RX5_199 mi_yX5_isTrack hA.k0 (by decide) (by decide +kernel) rfl (Nat.le_of_ble_eq_true rfl) (Nat.le_of_ble_eq_true rfl) (Nat.le_of_ble_eq_true rfl) (Nat.le_of_ble_eq_true rfl) (Nat.le_of_ble_eq_true rfl) dX5_mergedInto_3 (fun r u h => ?_) _ rfl
  obtain ⟨rfl, rfl⟩ := h
  refine v_if_ne C 13 (by decide) dX5_mergedInto_6 (fun c6 => ?_) (fun c6 => ?_)
  · obtain ⟨j, hj, rfl⟩ := ixI2 (bI_n0 c6 : ¬ i < 0 ∧ ¬ nI (cn q 1) ≤ i).1 (bI_n0 c6 : ¬ i < 0 ∧ ¬ nI (cn q 1) ≤ i).2 (by have := hA.hn; omega)
    refine v_aload_n C 0 rfl rfl dX5_mergedInto_13 ?_
    refine v_iload_n C 1 rfl rfl dX5_mergedInto_14 ?_
    refine v_bipush C 7 (by decide) dX5_mergedInto_15 ?_
    refine v_callVi C (st := [.ref (am 0)]) [.int (nI j), .int 7] (c_X5_of l S am (cn q 1) j 7 (by have := (hA).hn; omega) (by omega) hA) ml_RX5_74 mi_yX5_of hA.k0 (by decide) (by decide +kernel) rfl (Nat.le_of_ble_eq_true rfl) (Nat.le_of_ble_eq_true rfl) (Nat.le_of_ble_eq_true rfl) (Nat.le_of_ble_eq_true rfl) (Nat.le_of_ble_eq_true rfl) dX5_mergedInto_17 (fun r u h => ?_) _ rfl
    obtain ⟨rfl, rfl⟩ := h
    rw [(hV).m j hj 7 (by omega)]
    refine v_iconst C 2 (by decide) dX5_mergedInto_20 ?_
    refine v_icmp_eq C 28 (by decide) dX5_mergedInto_21 (fun c21 => ?_) (fun c21 => ?_)
    · refine v_iconst C 0 (by decide) dX5_mergedInto_28 ?_
      refine v_putI C fl_RX5_62 hA.k0 rfl rfl dX5_mergedInto_29 ?_
      refine v_aload_n C 0 rfl rfl dX5_mergedInto_32 ?_
      refine v_getI C 0 fl_RX5_62 hA.k0 hI_sI1 dX5_mergedInto_33 ?_
      refine v_if_ne C 49 (by decide) dX5_mergedInto_36 (fun q => absurd (by decide) q) (fun _ => ?_)
      refine v_aload_n C 0 rfl rfl dX5_mergedInto_39 ?_
      refine v_iload_n C 1 rfl rfl dX5_mergedInto_40 ?_
      refine v_bipush C 8 (by decide) dX5_mergedInto_41 ?_
      refine v_callVi C (st := []) [.int (nI j), .int 8] (c_X5_of l (sI S 61 (am 0) 0) am (cn q 1) j 8 (by have := (((FrN.I (v := 0)).toA hA)).hn; omega) (by omega) ((FrN.I (v := 0)).toA hA)) ml_RX5_74 mi_yX5_of hA.k0 (by decide) (by decide +kernel) rfl (Nat.le_of_ble_eq_true rfl) (Nat.le_of_ble_eq_true rfl) (Nat.le_of_ble_eq_true rfl) (Nat.le_of_ble_eq_true rfl) (Nat.le_of_ble_eq_true rfl) dX5_mergedInto_43 (fun r u h => ?_) _ rfl
      obtain ⟨rfl, rfl⟩ := h
      rw [(((FrN.I (v := 0)).toV hA hV)).m j hj 8 (by omega)]
      refine v_goto C 50 (by decide) dX5_mergedInto_46 ?_
      exact v_iret C hRT (Nat.le_of_ble_eq_true rfl) (Nat.le_of_ble_eq_true rfl) dX5_mergedInto_50 ⟨_, rfl, Or.inl ⟨j, hj, rfl, (st_ne hB hj 2 (by omega)).mp c21, FrN.I, hI_sI1, rfl⟩⟩
    · refine v_iconst C 2 (by decide) dX5_mergedInto_24 ?_
      refine v_goto C 29 (by decide) dX5_mergedInto_25 ?_
      refine v_putI C fl_RX5_62 hA.k0 rfl rfl dX5_mergedInto_29 ?_
      refine v_aload_n C 0 rfl rfl dX5_mergedInto_32 ?_
      refine v_getI C 2 fl_RX5_62 hA.k0 hI_sI1 dX5_mergedInto_33 ?_
      refine v_if_ne C 49 (by decide) dX5_mergedInto_36 (fun _ => ?_) (fun q => absurd q (by decide))
      refine v_iconst C (-1) (by decide) dX5_mergedInto_49 ?_
      exact v_iret C hRT (Nat.le_of_ble_eq_true rfl) (Nat.le_of_ble_eq_true rfl) dX5_mergedInto_50 ⟨_, rfl, Or.inr (Or.inr ⟨j, hj, rfl, fun z => c21 ((st_ne hB hj 2 (by omega)).mpr z), FrN.I, hI_sI1⟩)⟩
  · refine v_iconst C 1 (by decide) dX5_mergedInto_9 ?_
    refine v_goto C 29 (by decide) dX5_mergedInto_10 ?_
    refine v_putI C fl_RX5_62 hA.k0 rfl rfl dX5_mergedInto_29 ?_
    refine v_aload_n C 0 rfl rfl dX5_mergedInto_32 ?_
    refine v_getI C 1 fl_RX5_62 hA.k0 hI_sI1 dX5_mergedInto_33 ?_
    refine v_if_ne C 49 (by decide) dX5_mergedInto_36 (fun _ => ?_) (fun q => absurd q (by decide))
    refine v_iconst C (-1) (by decide) dX5_mergedInto_49 ?_
    exact v_iret C hRT (Nat.le_of_ble_eq_true rfl) (Nat.le_of_ble_eq_true rfl) dX5_mergedInto_50 ⟨_, rfl, Or.inr (Or.inl ⟨(bI_e0 c6 : ¬ (¬ i < 0 ∧ ¬ nI (cn q 1) ≤ i)), FrN.I, hI_sI1⟩)⟩
theorem sta1 {q : AS} {j : Nat} (h : zz q 3 j 7 = 1) : stA q j = 108 := by
  unfold stA
  rw [if_neg (by omega), if_neg (by omega)]
theorem sta2 {q : AS} {j : Nat} (h : zz q 3 j 7 = 2) : stA q j = 109 := by
  unfold stA
  rw [if_neg (by omega), if_pos h]
theorem sta0 {z : Int} (h : z = 0 ∨ z = 1 ∨ z = 2) (h1 : ¬ z = 1) (h2 : ¬ z = 2) : z = 0 := by omega
theorem sta3 {q : AS} {j : Nat} (h : zz q 3 j 7 = 0) (c : ¬ 3 ≤ iO (zz q 3 j 5)) : stA q j = 116 := by
  unfold stA
  rw [if_pos h, if_pos (Int32.not_le.mp c)]
theorem sta4 {q : AS} {j : Nat} (h : zz q 3 j 7 = 0) (c : 3 ≤ iO (zz q 3 j 5)) : stA q j = 99 := by
  unfold stA
  rw [if_pos h, if_neg (Int32.not_lt.mpr c)]
set_option maxRecDepth 100000 in
set_option maxHeartbeats 4000000 in
theorem c_X5_status (l : Launch) (S : HS) (am : AM) (q : AS) (hB : BI q) (hA : NA S am (cn q 1)) (hV : NV S am q) (i : Int32) : cM l yX5_status cX5_status 3 (Option.some Jvm.ClassFile.FieldType.char) 10 [.ref (am 0), .int i] S (pI fun r u => (∃ j, j < cn q 1 ∧ i = nI j ∧ FrN S u am ∧ hI u 61 (am 0) = 0 ∧ stA q j = r) ∨ (¬ isTk q i ∧ FrN S u am ∧ hI u 61 (am 0) = 1)) 0 0 := by
  refine cM_intro (by decide +kernel) cd_X5_status (Nat.le_of_ble_eq_true rfl) ?_
  intro pP eE sS mM aA bB tT cC G A C hRT hin
  refine V.lvs (lv2 := [(0, .ref (am 0)), (1, .int i)]) rfl ?_
  refine v_aload_n C 0 rfl rfl dX5_status_0 ?_
  refine v_iload_n C 1 rfl rfl dX5_status_1 ?_
  refine v_callVi C (st := []) [.int i] (c_X5_isThere l S am q hA hV i) ml_RX5_207 mi_yX5_isThere hA.k0 (by decide) (by decide +kernel) rfl (Nat.le_of_ble_eq_true rfl) (Nat.le_of_ble_eq_true rfl) (Nat.le_of_ble_eq_true rfl) (Nat.le_of_ble_eq_true rfl) (Nat.le_of_ble_eq_true rfl) dX5_status_2 (fun r u h => ?_) _ rfl
  rcases h with ⟨hi, rfl, rfl⟩ | ⟨hi, rfl, rfl⟩
  · obtain ⟨j, hj, rfl⟩ := ixI2 hi.1 hi.2 (by have := hA.hn; omega)
    have hA1 : NA (sI S 61 (am 0) 0) am (cn q 1) := FrN.I.toA hA
    have hV1 : NV (sI S 61 (am 0) 0) am q := FrN.I.toV hA hV
    refine v_if_ne C 11 (by decide) dX5_status_5 (fun _ => ?_) (fun q => absurd q (by decide))
    refine v_aload_n C 0 rfl rfl dX5_status_11 ?_
    refine v_iload_n C 1 rfl rfl dX5_status_12 ?_
    refine v_bipush C 7 (by decide) dX5_status_13 ?_
    refine v_callVi C (st := []) [.int (nI j), .int 7] (c_X5_of l (sI S 61 (am 0) 0) am (cn q 1) j 7 (by have := (hA1).hn; omega) (by omega) hA1) ml_RX5_74 mi_yX5_of hA.k0 (by decide) (by decide +kernel) rfl (Nat.le_of_ble_eq_true rfl) (Nat.le_of_ble_eq_true rfl) (Nat.le_of_ble_eq_true rfl) (Nat.le_of_ble_eq_true rfl) (Nat.le_of_ble_eq_true rfl) dX5_status_15 (fun r u h => ?_) _ rfl
    obtain ⟨rfl, rfl⟩ := h
    rw [(hV1).m j hj 7 (by omega)]
    refine v_istore_n C [(2, .int (iO (zz q 3 j 7))), (0, .ref (am 0)), (1, .int (nI j))] (by decide) rfl rfl dX5_status_18 ?_
    refine v_iload_n C 0 rfl rfl dX5_status_19 ?_
    refine v_iconst C 1 (by decide) dX5_status_20 ?_
    refine v_icmp_ne C 29 (by decide) dX5_status_21 (fun c21 => ?_) (fun c21 => ?_)
    · refine v_iload_n C 0 rfl rfl dX5_status_29 ?_
      refine v_iconst C 2 (by decide) dX5_status_30 ?_
      refine v_icmp_ne C 39 (by decide) dX5_status_31 (fun c31 => ?_) (fun c31 => ?_)
      · refine v_aload_n C 1 rfl rfl dX5_status_39 ?_
        refine v_iload_n C 2 rfl rfl dX5_status_40 ?_
        refine v_iconst C 5 (by decide) dX5_status_41 ?_
        refine v_callVi C (st := []) [.int (nI j), .int 5] (c_X5_of l (sI S 61 (am 0) 0) am (cn q 1) j 5 (by have := (hA1).hn; omega) (by omega) hA1) ml_RX5_74 mi_yX5_of hA.k0 (by decide) (by decide +kernel) rfl (Nat.le_of_ble_eq_true rfl) (Nat.le_of_ble_eq_true rfl) (Nat.le_of_ble_eq_true rfl) (Nat.le_of_ble_eq_true rfl) (Nat.le_of_ble_eq_true rfl) dX5_status_42 (fun r u h => ?_) _ rfl
        obtain ⟨rfl, rfl⟩ := h
        rw [(hV1).m j hj 5 (by omega)]
        refine v_iconst C 3 (by decide) dX5_status_45 ?_
        refine v_icmp_ge C 54 (by decide) dX5_status_46 (fun c46 => ?_) (fun c46 => ?_)
        · refine v_bipush C 99 (by decide) dX5_status_54 ?_
          exact v_zret C (by decide) hRT (Nat.le_of_ble_eq_true rfl) (Nat.le_of_ble_eq_true rfl) dX5_status_56 ⟨_, rfl, Or.inl ⟨j, hj, rfl, FrN.I, hI_sI1, sta4 (sta0 (hB.bs j hj) (fun z => c21 ((st_ne hB hj 1 (by omega)).mpr z)) (fun z => c31 ((st_ne hB hj 2 (by omega)).mpr z))) c46⟩⟩
        · refine v_bipush C 116 (by decide) dX5_status_49 ?_
          refine v_goto C 56 (by decide) dX5_status_51 ?_
          exact v_zret C (by decide) hRT (Nat.le_of_ble_eq_true rfl) (Nat.le_of_ble_eq_true rfl) dX5_status_56 ⟨_, rfl, Or.inl ⟨j, hj, rfl, FrN.I, hI_sI1, sta3 (sta0 (hB.bs j hj) (fun z => c21 ((st_ne hB hj 1 (by omega)).mpr z)) (fun z => c31 ((st_ne hB hj 2 (by omega)).mpr z))) c46⟩⟩
      · refine v_bipush C 109 (by decide) dX5_status_34 ?_
        refine v_goto C 56 (by decide) dX5_status_36 ?_
        exact v_zret C (by decide) hRT (Nat.le_of_ble_eq_true rfl) (Nat.le_of_ble_eq_true rfl) dX5_status_56 ⟨_, rfl, Or.inl ⟨j, hj, rfl, FrN.I, hI_sI1, sta2 ((st_ne hB hj 2 (by omega)).mp c31)⟩⟩
    · refine v_bipush C 108 (by decide) dX5_status_24 ?_
      refine v_goto C 56 (by decide) dX5_status_26 ?_
      exact v_zret C (by decide) hRT (Nat.le_of_ble_eq_true rfl) (Nat.le_of_ble_eq_true rfl) dX5_status_56 ⟨_, rfl, Or.inl ⟨j, hj, rfl, FrN.I, hI_sI1, sta1 ((st_ne hB hj 1 (by omega)).mp c21)⟩⟩
  · have htt := trivial
    refine v_if_ne C 11 (by decide) dX5_status_5 (fun q => absurd (by decide) q) (fun _ => ?_)
    refine v_bipush C 32 (by decide) dX5_status_8 ?_
    exact v_zret C (by decide) hRT (Nat.le_of_ble_eq_true rfl) (Nat.le_of_ble_eq_true rfl) dX5_status_10 ⟨_, rfl, Or.inr ⟨hi, FrN.I, hI_sI1⟩⟩
