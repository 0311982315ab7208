theorem tk_I2 {x : Int32} {n : Nat} (hn : n ≤ 600) : (¬ x.toInt64 < (0 : Int32).toInt64 ∧ ¬ (nI n - 1).toInt64 < x.toInt64) ↔ (¬ x < 0 ∧ ¬ nI n ≤ x) := by
  rw [tl_lt, tl_lt, nI_iO, show (1 : Int32) = iO 1 from rfl, iO_sub, Int32.lt_iff_toInt_lt, Int32.lt_iff_toInt_lt, Int32.le_iff_toInt_le, iO_toInt (by omega) (by omega), iO_toInt (by omega) (by omega)]
  omega
theorem ix_no {q : AS} {j : Nat} {x : Int32} (h : ¬ (¬ x < 0 ∧ ¬ nI (cn q (100 + j)) ≤ x)) (hn : cn q (100 + j) ≤ 500) : ¬ ∃ k, k < cn q (100 + j) ∧ x = nI k := ix_not (Classical.byContradiction fun z => h ⟨fun y => z (Or.inl y), fun y => z (Or.inr y)⟩) hn
set_option maxRecDepth 100000 in
set_option maxHeartbeats 4000000 in
theorem c_X5_historyAt (l : Launch) (S : HS) (am : AM) (q : AS) (hB : BI q) (hA : NA S am (cn q 1)) (hV : NV S am q) (hSG : SGB q) (i x : Int32) : cM l yX5_historyAt cX5_historyAt 3 (Option.some Jvm.ClassFile.FieldType.char) 8 [.ref (am 0), .int i, .int x] S (pI fun r u => (∃ j, j < cn q 1 ∧ i = nI j ∧ ∃ k, k < cn q (100 + j) ∧ x = nI k ∧ FrN S u am ∧ hI u 61 (am 0) = 0 ∧ iO (zz q 4 j k) = r) ∨ (¬ isTk q i ∧ FrN S u am ∧ hI u 61 (am 0) = 1) ∨ (∃ j, j < cn q 1 ∧ i = nI j ∧ ¬ (∃ k, k < cn q (100 + j) ∧ x = nI k) ∧ FrN S u am ∧ hI u 61 (am 0) = 2)) 0 0 := by
  refine cM_intro (by decide +kernel) cd_X5_historyAt (Nat.le_of_ble_eq_true rfl) ?_
  intro pP eE sS mM aA bB tT cC G A C hRT hin
  refine V.lvs (lv2 := [(0, .ref (am 0)), (1, .int i), (2, .int x)]) rfl ?_
  refine v_aload_n C 0 rfl rfl dX5_historyAt_0 ?_
  refine v_aload_n C 0 rfl rfl dX5_historyAt_1 ?_
  refine v_iload_n C 1 rfl rfl dX5_historyAt_2 ?_
  refine v_callVi C (st := [.ref (am 0)]) [.int i] (c_X5_isTrack l S am q i hA hV.v44) ml_RX5_199 mi_yX5_isTrack hA.k0 (by decide) (by decide +kernel) rfl (Nat.le_of_ble_eq_true rfl) (Nat.le_of_ble_eq_true rfl) (Nat.le_of_ble_eq_true rfl) (Nat.le_of_ble_eq_true rfl) (Nat.le_of_ble_eq_true rfl) dX5_historyAt_3 (fun r u h => ?_) _ rfl
  obtain ⟨rfl, rfl⟩ := h
  refine v_if_ne C 13 (by decide) dX5_historyAt_6 (fun c6 => ?_) (fun c6 => ?_)
  · obtain ⟨j, hj, rfl⟩ := ixI2 (bI_n0 c6 : ¬ i < 0 ∧ ¬ nI (cn q 1) ≤ i).1 (bI_n0 c6 : ¬ i < 0 ∧ ¬ nI (cn q 1) ≤ i).2 (by have := hA.hn; omega)
    refine v_iload_n C 2 rfl rfl dX5_historyAt_13 ?_
    refine v_i2l C dX5_historyAt_14 ?_
    refine v_lconst C 0 (by decide) dX5_historyAt_15 ?_
    refine v_aload_n C 0 rfl rfl dX5_historyAt_16 ?_
    refine v_getR C (am 5) fl_RX5_25 hA.k0 hA.r46 dX5_historyAt_17 ?_
    refine v_iload_n C 1 rfl rfl dX5_historyAt_20 ?_
    refine v_iald C (nI (cn q (100 + j))) hA.k5 (vpi hA.n5 (vp_in_nI (by have := hA.hn; omega) (by decide))) ((congrArg _ (nI_clamp (by have := hA.hn; omega))).trans (hV.hm j hj)) dX5_historyAt_21 ?_
    refine v_iconst C 1 (by decide) dX5_historyAt_22 ?_
    refine v_isub C dX5_historyAt_23 ?_
    refine v_i2l C dX5_historyAt_24 ?_
    refine v_callSi C (st := [.ref (am 0)]) [.long x.toInt64, .long 0, .long (((nI (cn q (100 + j))) - 1).toInt64)] (c_X5_in l S x.toInt64 0 (((nI (cn q (100 + j))) - 1).toInt64)) ml_RX5_67 ms_yX5_in rfl (Nat.le_of_ble_eq_true rfl) (Nat.le_of_ble_eq_true rfl) (Nat.le_of_ble_eq_true rfl) (Nat.le_of_ble_eq_true rfl) (Nat.le_of_ble_eq_true rfl) dX5_historyAt_25 (fun r u h => ?_) _ rfl
    obtain ⟨rfl, rfl⟩ := h
    refine v_if_ne C 35 (by decide) dX5_historyAt_28 (fun c28 => ?_) (fun c28 => ?_)
    · refine v_iconst C 0 (by decide) dX5_historyAt_35 ?_
      refine v_putI C fl_RX5_62 hA.k0 rfl rfl dX5_historyAt_36 ?_
      refine v_aload_n C 0 rfl rfl dX5_historyAt_39 ?_
      refine v_getI C 0 fl_RX5_62 hA.k0 hI_sI1 dX5_historyAt_40 ?_
      refine v_if_ne C 57 (by decide) dX5_historyAt_43 (fun q => absurd (by decide) q) (fun _ => ?_)
      have hx9 := (tk_I2 (by have := (hB.bh j hj).1; omega)).mp (bI_n0 c28)
      obtain ⟨k, hk, rfl⟩ := ixI2 hx9.1 hx9.2 (by have := (hB.bh j hj).1; omega)
      have hk5 := (hB.bh j hj).1
      have h60 := hA.hn
      refine v_aload_n C 0 rfl rfl dX5_historyAt_46 ?_
      refine v_getR C (am 4) fl_RX5_21 hA.k0 hA.r45 dX5_historyAt_47 ?_
      refine v_iload_n C 1 rfl rfl dX5_historyAt_50 ?_
      refine v_aald C (some (am (20 + j))) (klt hA.k4 (by decide)) (kgt hA.k4 (by decide)) (vpi hA.n4 (vp_in_nI (by have := hA.hn; omega) (by decide))) ((congrArg _ (nI_clamp (by have := hA.hn; omega))).trans (hA.a4 j hj)) dX5_historyAt_51 ?_
      refine v_iload_n C 2 rfl rfl dX5_historyAt_52 ?_
      refine v_cald C (iO (zz q 4 j k)) (hA.kh j hj) (vpi (m := hN S (am (20 + j))) rfl (vp_in_nI (Nat.lt_of_lt_of_le hk (hV.hl j hj).1) (by have := (hV.hl j hj).2.2; omega))) ((congrArg _ (nI_clamp (by omega))).trans (hV.hr j hj k hk)) dX5_historyAt_53 ?_
      refine v_goto C 59 (by decide) dX5_historyAt_54 ?_
      exact v_zret C (nar_c2 (hSG j hj k hk)) hRT (Nat.le_of_ble_eq_true rfl) (Nat.le_of_ble_eq_true rfl) dX5_historyAt_59 ⟨_, rfl, Or.inl ⟨j, hj, rfl, k, hk, rfl, FrN.I, hI_sI1, rfl⟩⟩
    · refine v_iconst C 2 (by decide) dX5_historyAt_31 ?_
      refine v_goto C 36 (by decide) dX5_historyAt_32 ?_
      refine v_putI C fl_RX5_62 hA.k0 rfl rfl dX5_historyAt_36 ?_
      refine v_aload_n C 0 rfl rfl dX5_historyAt_39 ?_
      refine v_getI C 2 fl_RX5_62 hA.k0 hI_sI1 dX5_historyAt_40 ?_
      refine v_if_ne C 57 (by decide) dX5_historyAt_43 (fun _ => ?_) (fun q => absurd q (by decide))
      refine v_bipush C 32 (by decide) dX5_historyAt_57 ?_
      exact v_zret C (by decide) hRT (Nat.le_of_ble_eq_true rfl) (Nat.le_of_ble_eq_true rfl) dX5_historyAt_59 ⟨_, rfl, Or.inr (Or.inr ⟨j, hj, rfl, ix_no (fun z => bI_e0 c28 ((tk_I2 (by have := (hB.bh j hj).1; omega)).mpr z)) (hB.bh j hj).1, FrN.I, hI_sI1⟩)⟩
  · refine v_iconst C 1 (by decide) dX5_historyAt_9 ?_
    refine v_goto C 36 (by decide) dX5_historyAt_10 ?_
    refine v_putI C fl_RX5_62 hA.k0 rfl rfl dX5_historyAt_36 ?_
    refine v_aload_n C 0 rfl rfl dX5_historyAt_39 ?_
    refine v_getI C 1 fl_RX5_62 hA.k0 hI_sI1 dX5_historyAt_40 ?_
    refine v_if_ne C 57 (by decide) dX5_historyAt_43 (fun _ => ?_) (fun q => absurd q (by decide))
    refine v_bipush C 32 (by decide) dX5_historyAt_57 ?_
    exact v_zret C (by decide) hRT (Nat.le_of_ble_eq_true rfl) (Nat.le_of_ble_eq_true rfl) dX5_historyAt_59 ⟨_, rfl, Or.inr (Or.inl ⟨(bI_e0 c6 : ¬ (¬ i < 0 ∧ ¬ nI (cn q 1) ≤ i)), FrN.I, hI_sI1⟩)⟩
