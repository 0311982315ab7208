theorem FrN.put {S T : HS} {am : AM} {f a : Nat} {v : Int32} (h : FrN S T am) (hv : hI S f a = v) : FrN S (sI T f a v) am := ⟨h.1, h.2.1, h.2.2.1, fun f' a' h6 => by
  by_cases c : f' = f ∧ a' = a
  · rw [c.1, c.2, hI_sI1]; exact hv.symm
  · rw [hI_sI2 c]; exact h.2.2.2.1 f' a' h6, h.2.2.2.2.1, h.2.2.2.2.2⟩
theorem NV.set {S : HS} {am : AM} {q : AS} {k : Nat} {x : Int32} (hA : NA S am (cn q 1)) (hV : NV S am q) (hk : k < 5) : NV (sI S (51 + k) (am 0) x) am (zs q 0 0 k x.toInt) := by
  have r1 : ∀ f, f ≠ 51 + k → ∀ a, hI (sI S (51 + k) (am 0) x) f a = hI S f a := fun f h1 a => hI_sI2 (fun z => h1 z.1)
  have z1 : ∀ i, i ≠ 0 → ∀ j' k', zz (zs q 0 0 k x.toInt) i j' k' = zz q i j' k' := fun i hi j' k' => by rw [zz_zs, if_neg (fun z => hi z.1)]
  have st : ∀ m, m < 5 → hI S (51 + m) (am 0) = iO (zz q 0 0 m) → hI (sI S (51 + k) (am 0) x) (51 + m) (am 0) = iO (zz (zs q 0 0 k x.toInt) 0 0 m) := fun m hm h => by
    by_cases e : m = k
    · subst e
      rw [zz_zs, if_pos ⟨rfl, rfl, rfl⟩, iO_of]
      exact hI_sI1
    · rw [r1 _ (by omega), zz_zs, if_neg (fun z => e z.2.2)]
      exact h
  exact ⟨by rw [r1 _ (by omega)]; exact hV.v44, by rw [r1 _ (by omega)]; exact hV.v50, st 0 (by decide) hV.v51, st 1 (by decide) hV.v52, st 2 (by decide) hV.v53, st 3 (by decide) hV.v54, st 4 (by decide) hV.v55, by rw [r1 _ (by omega)]; exact hV.v56, by rw [r1 _ (by omega)]; exact hV.v57,
    hV.pm, fun i hi h k hk => by rw [z1 1 (by decide)]; exact hV.p1 i hi h k hk, fun i hi h k hk => by rw [z1 1 (by decide)]; exact hV.p2 i hi h k hk, fun t ht k hk => by rw [z1 3 (by decide)]; exact hV.m t ht k hk, hV.hm, fun t ht j hj => by rw [z1 4 (by decide)]; exact hV.hr t ht j hj, hV.hl, fun r hr => by rw [z1 2 (by decide)]; exact hV.t6 r hr, fun r hr => by rw [z1 2 (by decide)]; exact hV.t7 r hr, fun r hr => by rw [z1 2 (by decide)]; exact hV.t8 r hr⟩
theorem NA.I {S : HS} {am : AM} {n f a : Nat} {x : Int32} (h : NA S am n) : NA (sI S f a x) am n := h.of rfl rfl rfl rfl
set_option maxRecDepth 100000 in
set_option maxHeartbeats 4000000 in
theorem c_X5_setGate (l : Launch) (S : HS) (am : AM) (q : AS) (hA : NA S am (cn q 1)) (hV : NV S am q) (x : Int32) : cM l yX5_setGate cX5_setGate 3 (Option.some Jvm.ClassFile.FieldType.int) 6 [.ref (am 0), .int x] S (pI fun r u => (isIn x 1 500 ∧ NA u am (cn q 1) ∧ NV u am (zs q 0 0 0 x.toInt) ∧ hI u 61 (am 0) = 0 ∧ iO (zz q 0 0 0) = r) ∨ (¬ isIn x 1 500 ∧ FrN S u am ∧ hI u 61 (am 0) = 1)) 0 0 := by
  refine cM_intro (by decide +kernel) cd_X5_setGate (Nat.le_of_ble_eq_true rfl) ?_
  intro pP eE sS mM aA bB tT cC G A C hRT hin
  refine V.lvs (lv2 := [(0, .ref (am 0)), (1, .int x)]) rfl ?_
  refine v_aload_n C 0 rfl rfl dX5_setGate_0 ?_
  refine v_iload_n C 1 rfl rfl dX5_setGate_1 ?_
  refine v_i2l C dX5_setGate_2 ?_
  refine v_lconst C 1 (by decide) dX5_setGate_3 ?_
  refine v_ldc2 C kl_RX5_95 dX5_setGate_4 ?_
  refine v_callSi C (st := [.ref (am 0)]) [.long x.toInt64, .long 1, .long 500] (c_X5_in l S x.toInt64 1 500) ml_RX5_67 ms_yX5_in rfl (Nat.le_of_ble_eq_true rfl) (Nat.le_of_ble_eq_true rfl) (Nat.le_of_ble_eq_true rfl) (Nat.le_of_ble_eq_true rfl) (Nat.le_of_ble_eq_true rfl) dX5_setGate_7 (fun r u h => ?_) _ rfl
  obtain ⟨rfl, rfl⟩ := h
  refine v_if_eq C 17 (by decide) dX5_setGate_10 (fun c10 => ?_) (fun c10 => ?_)
  · refine v_iconst C 1 (by decide) dX5_setGate_17 ?_
    refine v_putI C fl_RX5_62 hA.k0 rfl rfl dX5_setGate_18 ?_
    refine v_aload_n C 0 rfl rfl dX5_setGate_21 ?_
    refine v_getI C (iO (zz q 0 0 0)) fl_RX5_37 hA.k0 ((hI_sI2 (fun q => absurd q.1 (by decide))).trans hV.v51) dX5_setGate_22 ?_
    refine v_istore_n C [(2, .int (iO (zz q 0 0 0))), (0, .ref (am 0)), (1, .int x)] (by decide) rfl rfl dX5_setGate_25 ?_
    refine v_aload_n C 1 rfl rfl dX5_setGate_26 ?_
    refine v_aload_n C 1 rfl rfl dX5_setGate_27 ?_
    refine v_getI C 1 fl_RX5_62 hA.k0 hI_sI1 dX5_setGate_28 ?_
    refine v_if_ne C 38 (by decide) dX5_setGate_31 (fun _ => ?_) (fun q => absurd q (by decide))
    refine v_iload_n C 0 rfl rfl dX5_setGate_38 ?_
    refine v_putI C fl_RX5_37 hA.k0 rfl rfl dX5_setGate_39 ?_
    refine v_aload_n C 1 rfl rfl dX5_setGate_42 ?_
    refine v_getI C 1 fl_RX5_62 hA.k0 ((hI_sI2 (fun q => absurd q.1 (by decide))).trans hI_sI1) dX5_setGate_43 ?_
    refine v_if_ne C 53 (by decide) dX5_setGate_46 (fun _ => ?_) (fun q => absurd q (by decide))
    refine v_iconst C (-1) (by decide) dX5_setGate_53 ?_
    exact v_iret C hRT (Nat.le_of_ble_eq_true rfl) (Nat.le_of_ble_eq_true rfl) dX5_setGate_54 ⟨_, rfl, Or.inr ⟨fun z => bI_e0 c10 ((bI_in 1 500).mpr z), FrN.put FrN.I hV.v51, (hI_sI2 (fun z => absurd z.1 (by decide))).trans hI_sI1⟩⟩
  · refine v_iconst C 0 (by decide) dX5_setGate_13 ?_
    refine v_goto C 18 (by decide) dX5_setGate_14 ?_
    refine v_putI C fl_RX5_62 hA.k0 rfl rfl dX5_setGate_18 ?_
    refine v_aload_n C 0 rfl rfl dX5_setGate_21 ?_
    refine v_getI C (iO (zz q 0 0 0)) fl_RX5_37 hA.k0 ((hI_sI2 (fun q => absurd q.1 (by decide))).trans hV.v51) dX5_setGate_22 ?_
    refine v_istore_n C [(2, .int (iO (zz q 0 0 0))), (0, .ref (am 0)), (1, .int x)] (by decide) rfl rfl dX5_setGate_25 ?_
    refine v_aload_n C 1 rfl rfl dX5_setGate_26 ?_
    refine v_aload_n C 1 rfl rfl dX5_setGate_27 ?_
    refine v_getI C 0 fl_RX5_62 hA.k0 hI_sI1 dX5_setGate_28 ?_
    refine v_if_ne C 38 (by decide) dX5_setGate_31 (fun q => absurd (by decide) q) (fun _ => ?_)
    refine v_iload_n C 2 rfl rfl dX5_setGate_34 ?_
    refine v_goto C 39 (by decide) dX5_setGate_35 ?_
    refine v_putI C fl_RX5_37 hA.k0 rfl rfl dX5_setGate_39 ?_
    refine v_aload_n C 1 rfl rfl dX5_setGate_42 ?_
    refine v_getI C 0 fl_RX5_62 hA.k0 ((hI_sI2 (fun q => absurd q.1 (by decide))).trans hI_sI1) dX5_setGate_43 ?_
    refine v_if_ne C 53 (by decide) dX5_setGate_46 (fun q => absurd (by decide) q) (fun _ => ?_)
    refine v_iload_n C 0 rfl rfl dX5_setGate_49 ?_
    refine v_goto C 54 (by decide) dX5_setGate_50 ?_
    exact v_iret C hRT (Nat.le_of_ble_eq_true rfl) (Nat.le_of_ble_eq_true rfl) dX5_setGate_54 ⟨_, rfl, Or.inl ⟨(bI_in 1 500).mp (bI_n0 c10), (FrN.I.toA hA).I, NV.set (k := 0) ((FrN.I (v := 0)).toA hA) ((FrN.I (v := 0)).toV hA hV) (by decide), (hI_sI2 (fun z => absurd z.1 (by decide))).trans hI_sI1, rfl⟩⟩
set_option maxRecDepth 100000 in
set_option maxHeartbeats 4000000 in
theorem c_X5_setLimit (l : Launch) (S : HS) (am : AM) (q : AS) (hA : NA S am (cn q 1)) (hV : NV S am q) (x : Int32) : cM l yX5_setLimit cX5_setLimit 3 (Option.some Jvm.ClassFile.FieldType.int) 6 [.ref (am 0), .int x] S (pI fun r u => (isIn x 1 9 ∧ NA u am (cn q 1) ∧ NV u am (zs q 0 0 3 x.toInt) ∧ hI u 61 (am 0) = 0 ∧ iO (zz q 0 0 3) = r) ∨ (¬ isIn x 1 9 ∧ FrN S u am ∧ hI u 61 (am 0) = 1)) 0 0 := by
  refine cM_intro (by decide +kernel) cd_X5_setLimit (Nat.le_of_ble_eq_true rfl) ?_
  intro pP eE sS mM aA bB tT cC G A C hRT hin
  refine V.lvs (lv2 := [(0, .ref (am 0)), (1, .int x)]) rfl ?_
  refine v_aload_n C 0 rfl rfl dX5_setLimit_0 ?_
  refine v_iload_n C 1 rfl rfl dX5_setLimit_1 ?_
  refine v_i2l C dX5_setLimit_2 ?_
  refine v_lconst C 1 (by decide) dX5_setLimit_3 ?_
  refine v_ldc2 C kl_RX5_99 dX5_setLimit_4 ?_
  refine v_callSi C (st := [.ref (am 0)]) [.long x.toInt64, .long 1, .long 9] (c_X5_in l S x.toInt64 1 9) ml_RX5_67 ms_yX5_in rfl (Nat.le_of_ble_eq_true rfl) (Nat.le_of_ble_eq_true rfl) (Nat.le_of_ble_eq_true rfl) (Nat.le_of_ble_eq_true rfl) (Nat.le_of_ble_eq_true rfl) dX5_setLimit_7 (fun r u h => ?_) _ rfl
  obtain ⟨rfl, rfl⟩ := h
  refine v_if_eq C 17 (by decide) dX5_setLimit_10 (fun c10 => ?_) (fun c10 => ?_)
  · refine v_iconst C 1 (by decide) dX5_setLimit_17 ?_
    refine v_putI C fl_RX5_62 hA.k0 rfl rfl dX5_setLimit_18 ?_
    refine v_aload_n C 0 rfl rfl dX5_setLimit_21 ?_
    refine v_getI C (iO (zz q 0 0 3)) fl_RX5_47 hA.k0 ((hI_sI2 (fun q => absurd q.1 (by decide))).trans hV.v54) dX5_setLimit_22 ?_
    refine v_istore_n C [(2, .int (iO (zz q 0 0 3))), (0, .ref (am 0)), (1, .int x)] (by decide) rfl rfl dX5_setLimit_25 ?_
    refine v_aload_n C 1 rfl rfl dX5_setLimit_26 ?_
    refine v_aload_n C 1 rfl rfl dX5_setLimit_27 ?_
    refine v_getI C 1 fl_RX5_62 hA.k0 hI_sI1 dX5_setLimit_28 ?_
    refine v_if_ne C 38 (by decide) dX5_setLimit_31 (fun _ => ?_) (fun q => absurd q (by decide))
    refine v_iload_n C 0 rfl rfl dX5_setLimit_38 ?_
    refine v_putI C fl_RX5_47 hA.k0 rfl rfl dX5_setLimit_39 ?_
    refine v_aload_n C 1 rfl rfl dX5_setLimit_42 ?_
    refine v_getI C 1 fl_RX5_62 hA.k0 ((hI_sI2 (fun q => absurd q.1 (by decide))).trans hI_sI1) dX5_setLimit_43 ?_
    refine v_if_ne C 53 (by decide) dX5_setLimit_46 (fun _ => ?_) (fun q => absurd q (by decide))
    refine v_iconst C (-1) (by decide) dX5_setLimit_53 ?_
    exact v_iret C hRT (Nat.le_of_ble_eq_true rfl) (Nat.le_of_ble_eq_true rfl) dX5_setLimit_54 ⟨_, rfl, Or.inr ⟨fun z => bI_e0 c10 ((bI_in 1 9).mpr z), FrN.put FrN.I hV.v54, (hI_sI2 (fun z => absurd z.1 (by decide))).trans hI_sI1⟩⟩
  · refine v_iconst C 0 (by decide) dX5_setLimit_13 ?_
    refine v_goto C 18 (by decide) dX5_setLimit_14 ?_
    refine v_putI C fl_RX5_62 hA.k0 rfl rfl dX5_setLimit_18 ?_
    refine v_aload_n C 0 rfl rfl dX5_setLimit_21 ?_
    refine v_getI C (iO (zz q 0 0 3)) fl_RX5_47 hA.k0 ((hI_sI2 (fun q => absurd q.1 (by decide))).trans hV.v54) dX5_setLimit_22 ?_
    refine v_istore_n C [(2, .int (iO (zz q 0 0 3))), (0, .ref (am 0)), (1, .int x)] (by decide) rfl rfl dX5_setLimit_25 ?_
    refine v_aload_n C 1 rfl rfl dX5_setLimit_26 ?_
    refine v_aload_n C 1 rfl rfl dX5_setLimit_27 ?_
    refine v_getI C 0 fl_RX5_62 hA.k0 hI_sI1 dX5_setLimit_28 ?_
    refine v_if_ne C 38 (by decide) dX5_setLimit_31 (fun q => absurd (by decide) q) (fun _ => ?_)
    refine v_iload_n C 2 rfl rfl dX5_setLimit_34 ?_
    refine v_goto C 39 (by decide) dX5_setLimit_35 ?_
    refine v_putI C fl_RX5_47 hA.k0 rfl rfl dX5_setLimit_39 ?_
    refine v_aload_n C 1 rfl rfl dX5_setLimit_42 ?_
    refine v_getI C 0 fl_RX5_62 hA.k0 ((hI_sI2 (fun q => absurd q.1 (by decide))).trans hI_sI1) dX5_setLimit_43 ?_
    refine v_if_ne C 53 (by decide) dX5_setLimit_46 (fun q => absurd (by decide) q) (fun _ => ?_)
    refine v_iload_n C 0 rfl rfl dX5_setLimit_49 ?_
    refine v_goto C 54 (by decide) dX5_setLimit_50 ?_
    exact v_iret C hRT (Nat.le_of_ble_eq_true rfl) (Nat.le_of_ble_eq_true rfl) dX5_setLimit_54 ⟨_, rfl, Or.inl ⟨(bI_in 1 9).mp (bI_n0 c10), (FrN.I.toA hA).I, NV.set (k := 3) ((FrN.I (v := 0)).toA hA) ((FrN.I (v := 0)).toV hA hV) (by decide), (hI_sI2 (fun z => absurd z.1 (by decide))).trans hI_sI1, rfl⟩⟩
set_option maxRecDepth 100000 in
set_option maxHeartbeats 4000000 in
theorem c_X5_setNearness (l : Launch) (S : HS) (am : AM) (q : AS) (hA : NA S am (cn q 1)) (hV : NV S am q) (x : Int32) : cM l yX5_setNearness cX5_setNearness 3 (Option.some Jvm.ClassFile.FieldType.int) 6 [.ref (am 0), .int x] S (pI fun r u => (isIn x 0 100 ∧ NA u am (cn q 1) ∧ NV u am (zs q 0 0 4 x.toInt) ∧ hI u 61 (am 0) = 0 ∧ iO (zz q 0 0 4) = r) ∨ (¬ isIn x 0 100 ∧ FrN S u am ∧ hI u 61 (am 0) = 1)) 0 0 := by
  refine cM_intro (by decide +kernel) cd_X5_setNearness (Nat.le_of_ble_eq_true rfl) ?_
  intro pP eE sS mM aA bB tT cC G A C hRT hin
  refine V.lvs (lv2 := [(0, .ref (am 0)), (1, .int x)]) rfl ?_
  refine v_aload_n C 0 rfl rfl dX5_setNearness_0 ?_
  refine v_iload_n C 1 rfl rfl dX5_setNearness_1 ?_
  refine v_i2l C dX5_setNearness_2 ?_
  refine v_lconst C 0 (by decide) dX5_setNearness_3 ?_
  refine v_ldc2 C kl_RX5_101 dX5_setNearness_4 ?_
  refine v_callSi C (st := [.ref (am 0)]) [.long x.toInt64, .long 0, .long 100] (c_X5_in l S x.toInt64 0 100) ml_RX5_67 ms_yX5_in rfl (Nat.le_of_ble_eq_true rfl) (Nat.le_of_ble_eq_true rfl) (Nat.le_of_ble_eq_true rfl) (Nat.le_of_ble_eq_true rfl) (Nat.le_of_ble_eq_true rfl) dX5_setNearness_7 (fun r u h => ?_) _ rfl
  obtain ⟨rfl, rfl⟩ := h
  refine v_if_eq C 17 (by decide) dX5_setNearness_10 (fun c10 => ?_) (fun c10 => ?_)
  · refine v_iconst C 1 (by decide) dX5_setNearness_17 ?_
    refine v_putI C fl_RX5_62 hA.k0 rfl rfl dX5_setNearness_18 ?_
    refine v_aload_n C 0 rfl rfl dX5_setNearness_21 ?_
    refine v_getI C (iO (zz q 0 0 4)) fl_RX5_50 hA.k0 ((hI_sI2 (fun q => absurd q.1 (by decide))).trans hV.v55) dX5_setNearness_22 ?_
    refine v_istore_n C [(2, .int (iO (zz q 0 0 4))), (0, .ref (am 0)), (1, .int x)] (by decide) rfl rfl dX5_setNearness_25 ?_
    refine v_aload_n C 1 rfl rfl dX5_setNearness_26 ?_
    refine v_aload_n C 1 rfl rfl dX5_setNearness_27 ?_
    refine v_getI C 1 fl_RX5_62 hA.k0 hI_sI1 dX5_setNearness_28 ?_
    refine v_if_ne C 38 (by decide) dX5_setNearness_31 (fun _ => ?_) (fun q => absurd q (by decide))
    refine v_iload_n C 0 rfl rfl dX5_setNearness_38 ?_
    refine v_putI C fl_RX5_50 hA.k0 rfl rfl dX5_setNearness_39 ?_
    refine v_aload_n C 1 rfl rfl dX5_setNearness_42 ?_
    refine v_getI C 1 fl_RX5_62 hA.k0 ((hI_sI2 (fun q => absurd q.1 (by decide))).trans hI_sI1) dX5_setNearness_43 ?_
    refine v_if_ne C 53 (by decide) dX5_setNearness_46 (fun _ => ?_) (fun q => absurd q (by decide))
    refine v_iconst C (-1) (by decide) dX5_setNearness_53 ?_
    exact v_iret C hRT (Nat.le_of_ble_eq_true rfl) (Nat.le_of_ble_eq_true rfl) dX5_setNearness_54 ⟨_, rfl, Or.inr ⟨fun z => bI_e0 c10 ((bI_in 0 100).mpr z), FrN.put FrN.I hV.v55, (hI_sI2 (fun z => absurd z.1 (by decide))).trans hI_sI1⟩⟩
  · refine v_iconst C 0 (by decide) dX5_setNearness_13 ?_
    refine v_goto C 18 (by decide) dX5_setNearness_14 ?_
    refine v_putI C fl_RX5_62 hA.k0 rfl rfl dX5_setNearness_18 ?_
    refine v_aload_n C 0 rfl rfl dX5_setNearness_21 ?_
    refine v_getI C (iO (zz q 0 0 4)) fl_RX5_50 hA.k0 ((hI_sI2 (fun q => absurd q.1 (by decide))).trans hV.v55) dX5_setNearness_22 ?_
    refine v_istore_n C [(2, .int (iO (zz q 0 0 4))), (0, .ref (am 0)), (1, .int x)] (by decide) rfl rfl dX5_setNearness_25 ?_
    refine v_aload_n C 1 rfl rfl dX5_setNearness_26 ?_
    refine v_aload_n C 1 rfl rfl dX5_setNearness_27 ?_
    refine v_getI C 0 fl_RX5_62 hA.k0 hI_sI1 dX5_setNearness_28 ?_
    refine v_if_ne C 38 (by decide) dX5_setNearness_31 (fun q => absurd (by decide) q) (fun _ => ?_)
    refine v_iload_n C 2 rfl rfl dX5_setNearness_34 ?_
    refine v_goto C 39 (by decide) dX5_setNearness_35 ?_
    refine v_putI C fl_RX5_50 hA.k0 rfl rfl dX5_setNearness_39 ?_
    refine v_aload_n C 1 rfl rfl dX5_setNearness_42 ?_
    refine v_getI C 0 fl_RX5_62 hA.k0 ((hI_sI2 (fun q => absurd q.1 (by decide))).trans hI_sI1) dX5_setNearness_43 ?_
    refine v_if_ne C 53 (by decide) dX5_setNearness_46 (fun q => absurd (by decide) q) (fun _ => ?_)
    refine v_iload_n C 0 rfl rfl dX5_setNearness_49 ?_
    refine v_goto C 54 (by decide) dX5_setNearness_50 ?_
    exact v_iret C hRT (Nat.le_of_ble_eq_true rfl) (Nat.le_of_ble_eq_true rfl) dX5_setNearness_54 ⟨_, rfl, Or.inl ⟨(bI_in 0 100).mp (bI_n0 c10), (FrN.I.toA hA).I, NV.set (k := 4) ((FrN.I (v := 0)).toA hA) ((FrN.I (v := 0)).toV hA hV) (by decide), (hI_sI2 (fun z => absurd z.1 (by decide))).trans hI_sI1, rfl⟩⟩
set_option maxRecDepth 100000 in
set_option maxHeartbeats 4000000 in
theorem c_X5_setFilter (l : Launch) (S : HS) (am : AM) (q : AS) (hA : NA S am (cn q 1)) (hV : NV S am q) (x y : Int32) : cM l yX5_setFilter cX5_setFilter 4 (Option.some Jvm.ClassFile.FieldType.int) 6 [.ref (am 0), .int x, .int y] S (pI fun r u => ((isIn x 1 16 ∧ isIn y 0 16) ∧ NA u am (cn q 1) ∧ NV u am (zs (zs q 0 0 1 x.toInt) 0 0 2 y.toInt) ∧ hI u 61 (am 0) = 0 ∧ 100 * iO (zz q 0 0 1) + iO (zz q 0 0 2) = r) ∨ (¬ (isIn x 1 16 ∧ isIn y 0 16) ∧ FrN S u am ∧ hI u 61 (am 0) = 1)) 0 0 := by
  refine cM_intro (by decide +kernel) cd_X5_setFilter (Nat.le_of_ble_eq_true rfl) ?_
  intro pP eE sS mM aA bB tT cC G A C hRT hin
  refine V.lvs (lv2 := [(0, .ref (am 0)), (1, .int x), (2, .int y)]) rfl ?_
  refine v_aload_n C 0 rfl rfl dX5_setFilter_0 ?_
  refine v_iload_n C 1 rfl rfl dX5_setFilter_1 ?_
  refine v_i2l C dX5_setFilter_2 ?_
  refine v_lconst C 1 (by decide) dX5_setFilter_3 ?_
  refine v_ldc2 C kl_RX5_97 dX5_setFilter_4 ?_
  refine v_callSi C (st := [.ref (am 0)]) [.long x.toInt64, .long 1, .long 16] (c_X5_in l S x.toInt64 1 16) ml_RX5_67 ms_yX5_in rfl (Nat.le_of_ble_eq_true rfl) (Nat.le_of_ble_eq_true rfl) (Nat.le_of_ble_eq_true rfl) (Nat.le_of_ble_eq_true rfl) (Nat.le_of_ble_eq_true rfl) dX5_setFilter_7 (fun r u h => ?_) _ rfl
  obtain ⟨rfl, rfl⟩ := h
  refine v_if_eq C 29 (by decide) dX5_setFilter_10 (fun c10 => ?_) (fun c10 => ?_)
  · refine v_iconst C 1 (by decide) dX5_setFilter_29 ?_
    refine v_putI C fl_RX5_62 hA.k0 rfl rfl dX5_setFilter_30 ?_
    refine v_aload_n C 0 rfl rfl dX5_setFilter_33 ?_
    refine v_getI C 1 fl_RX5_62 hA.k0 hI_sI1 dX5_setFilter_34 ?_
    refine v_if_le C 42 (by decide) dX5_setFilter_37 (fun q => absurd q (by decide)) (fun _ => ?_)
    refine v_iconst C (-1) (by decide) dX5_setFilter_40 ?_
    exact v_iret C hRT (Nat.le_of_ble_eq_true rfl) (Nat.le_of_ble_eq_true rfl) dX5_setFilter_41 ⟨_, rfl, Or.inr ⟨fun z => bI_e0 c10 ((bI_in 1 16).mpr z.1), FrN.I, hI_sI1⟩⟩
  · refine v_iload_n C 2 rfl rfl dX5_setFilter_13 ?_
    refine v_i2l C dX5_setFilter_14 ?_
    refine v_lconst C 0 (by decide) dX5_setFilter_15 ?_
    refine v_ldc2 C kl_RX5_97 dX5_setFilter_16 ?_
    refine v_callSi C (st := [.ref (am 0)]) [.long y.toInt64, .long 0, .long 16] (c_X5_in l S y.toInt64 0 16) ml_RX5_67 ms_yX5_in rfl (Nat.le_of_ble_eq_true rfl) (Nat.le_of_ble_eq_true rfl) (Nat.le_of_ble_eq_true rfl) (Nat.le_of_ble_eq_true rfl) (Nat.le_of_ble_eq_true rfl) dX5_setFilter_19 (fun r u h => ?_) _ rfl
    obtain ⟨rfl, rfl⟩ := h
    refine v_if_eq C 29 (by decide) dX5_setFilter_22 (fun c22 => ?_) (fun c22 => ?_)
    · refine v_iconst C 1 (by decide) dX5_setFilter_29 ?_
      refine v_putI C fl_RX5_62 hA.k0 rfl rfl dX5_setFilter_30 ?_
      refine v_aload_n C 0 rfl rfl dX5_setFilter_33 ?_
      refine v_getI C 1 fl_RX5_62 hA.k0 hI_sI1 dX5_setFilter_34 ?_
      refine v_if_le C 42 (by decide) dX5_setFilter_37 (fun q => absurd q (by decide)) (fun _ => ?_)
      refine v_iconst C (-1) (by decide) dX5_setFilter_40 ?_
      exact v_iret C hRT (Nat.le_of_ble_eq_true rfl) (Nat.le_of_ble_eq_true rfl) dX5_setFilter_41 ⟨_, rfl, Or.inr ⟨fun z => bI_e0 c22 ((bI_in 0 16).mpr z.2), FrN.I, hI_sI1⟩⟩
    · refine v_iconst C 0 (by decide) dX5_setFilter_25 ?_
      refine v_goto C 30 (by decide) dX5_setFilter_26 ?_
      refine v_putI C fl_RX5_62 hA.k0 rfl rfl dX5_setFilter_30 ?_
      refine v_aload_n C 0 rfl rfl dX5_setFilter_33 ?_
      refine v_getI C 0 fl_RX5_62 hA.k0 hI_sI1 dX5_setFilter_34 ?_
      refine v_if_le C 42 (by decide) dX5_setFilter_37 (fun _ => ?_) (fun q => absurd (by decide) q)
      refine v_bipush C 100 (by decide) dX5_setFilter_42 ?_
      refine v_aload_n C 0 rfl rfl dX5_setFilter_44 ?_
      refine v_getI C (iO (zz q 0 0 1)) fl_RX5_41 hA.k0 ((hI_sI2 (fun q => absurd q.1 (by decide))).trans hV.v52) dX5_setFilter_45 ?_
      refine v_imul C dX5_setFilter_48 ?_
      refine v_aload_n C 0 rfl rfl dX5_setFilter_49 ?_
      refine v_getI C (iO (zz q 0 0 2)) fl_RX5_44 hA.k0 ((hI_sI2 (fun q => absurd q.1 (by decide))).trans hV.v53) dX5_setFilter_50 ?_
      refine v_iadd C dX5_setFilter_53 ?_
      refine v_istore_n C [(3, .int ((100 * (iO (zz q 0 0 1))) + (iO (zz q 0 0 2)))), (0, .ref (am 0)), (1, .int x), (2, .int y)] (by decide) rfl rfl dX5_setFilter_54 ?_
      refine v_aload_n C 1 rfl rfl dX5_setFilter_55 ?_
      refine v_iload_n C 2 rfl rfl dX5_setFilter_56 ?_
      refine v_putI C fl_RX5_41 hA.k0 rfl rfl dX5_setFilter_57 ?_
      refine v_aload_n C 1 rfl rfl dX5_setFilter_60 ?_
      refine v_iload_n C 3 rfl rfl dX5_setFilter_61 ?_
      refine v_putI C fl_RX5_44 hA.k0 rfl rfl dX5_setFilter_62 ?_
      refine v_iload_n C 0 rfl rfl dX5_setFilter_65 ?_
      exact v_iret C hRT (Nat.le_of_ble_eq_true rfl) (Nat.le_of_ble_eq_true rfl) dX5_setFilter_66 ⟨_, rfl, Or.inl ⟨⟨(bI_in 1 16).mp (bI_n0 c10), (bI_in 0 16).mp (bI_n0 c22)⟩, ((FrN.I (v := 0)).toA hA).I.I, NV.set (k := 2) (NA.I ((FrN.I (v := 0)).toA hA)) (NV.set (k := 1) ((FrN.I (v := 0)).toA hA) ((FrN.I (v := 0)).toV hA hV) (by decide)) (by decide), (hI_sI2 (fun z => absurd z.1 (by decide))).trans ((hI_sI2 (fun z => absurd z.1 (by decide))).trans hI_sI1), rfl⟩⟩
theorem ix4 {j k : Nat} : 4 * nI j + nI k = nI (4 * j + k) := by
  rw [nI_iO, nI_iO, nI_iO, show (4 : Int32) = iO 4 from rfl, iO_mul, iO_add]
  congr 1
theorem ix40 {j : Nat} : 4 * nI j = nI (4 * j) := by
  rw [nI_iO, nI_iO, show (4 : Int32) = iO 4 from rfl, iO_mul]
  congr 1
theorem crt_M {q : AS} (hB : BI q) {j : Nat} (hj : j < 4) {t : Int32} (ht : isTm t) (h2 : ¬ cn q (10 + j) = 0) (h3 : ¬ cn q (10 + j) = 1) : iO (zz q 1 j 3) + fdv ((t - iO (zz q 1 j 2)) * (iO (zz q 1 j 3) - iO (zz q 1 j 1))) (iO (zz q 1 j 2) - iO (zz q 1 j 0)) = iO (crt q j t.toInt) := by
  have hc := hB.bc j hj
  obtain ⟨e1, e2, e3⟩ := crt_ex hB hj (tm_bd ht) (by omega)
  unfold crt
  rw [if_neg h2, if_neg h3, show t - iO (zz q 1 j 2) = iO (t.toInt - zz q 1 j 2) from by rw [← iO_sub, iO_of], iO_sub, iO_sub, iO_mul, fdv_O (by unfold bd at *; omega) (by unfold bd at *; omega) (by unfold bd at *; omega) e1, iO_add]
theorem crt_d {q : AS} (hB : BI q) {j : Nat} (hj : j < 4) {t : Int32} (ht : isTm t) (h2 : ¬ cn q (10 + j) = 0) (h3 : ¬ cn q (10 + j) = 1) : ¬ iO (zz q 1 j 2) - iO (zz q 1 j 0) = 0 := by
  have hc := hB.bc j hj
  obtain ⟨e1, e2, e3⟩ := crt_ex hB hj (tm_bd ht) (by omega)
  rw [iO_sub, show (0 : Int32) = iO 0 from rfl, iO_eq (by unfold bd at *; omega) (by unfold bd at *; omega) (by decide) (by decide)]
  omega
theorem crt_1 {q : AS} {j : Nat} {t : Int32} (h1 : cn q (10 + j) = 1) (h0 : ¬ cn q (10 + j) = 0) : iO (crt q j t.toInt) = t + iO (zz q 1 j 3) - iO (zz q 1 j 2) := by
  unfold crt
  rw [if_neg h0, if_pos h1]
  have e : t = iO t.toInt := (iO_of t).symm
  rw [show t + iO (zz q 1 j 3) = iO (t.toInt + zz q 1 j 3) from by rw [← iO_add, iO_of], iO_sub]
  congr 1
  omega
set_option maxRecDepth 100000 in
set_option maxHeartbeats 4000000 in
theorem c_X5_corrected (l : Launch) (S : HS) (am : AM) (q : AS) (hB : BI q) (hA : NA S am (cn q 1)) (hV : NV S am q) (j : Nat) (hj : j < 4) (t : Int32) (ht : isTm t)  : cM l yX5_corrected cX5_corrected 5 (Option.some Jvm.ClassFile.FieldType.int) 4 [.ref (am 0), .int (nI j), .int t] S (pI fun r u => iO (crt q j t.toInt) = r ∧ S = u) 0 0 := by
  refine cM_intro (by decide +kernel) cd_X5_corrected (Nat.le_of_ble_eq_true rfl) ?_
  intro pP eE sS mM aA bB tT cC G A C hRT hin
  refine V.lvs (lv2 := [(0, .ref (am 0)), (1, .int (nI j)), (2, .int t)]) rfl ?_
  have hc2 := hB.bc j hj
  refine v_iconst C 4 (by decide) dX5_corrected_0 ?_
  refine v_iload_n C 1 rfl rfl dX5_corrected_1 ?_
  refine v_imul C dX5_corrected_2 ?_
  rw [ix40]
  refine v_istore_n C [(3, .int (nI (4 * j))), (0, .ref (am 0)), (1, .int (nI j)), (2, .int t)] (by decide) rfl rfl dX5_corrected_3 ?_
  refine v_aload_n C 1 rfl rfl dX5_corrected_4 ?_
  refine v_getR C (am 2) fl_RX5_13 hA.k0 hA.r42 dX5_corrected_5 ?_
  refine v_iload_n C 2 rfl rfl dX5_corrected_8 ?_
  refine v_iald C (nI (cn q (10 + j))) hA.k2 (by rw [hA.n2]; exact vp_in_nI (by omega) (by decide)) ((congrArg _ (nI_clamp (by omega))).trans (hV.pm j hj)) dX5_corrected_9 ?_
  refine v_if_ne C 15 (by decide) dX5_corrected_10 (fun c10 => ?_) (fun c10 => ?_)
  · have hn0 : ¬ cn q (10 + j) = 0 := fun z => c10 (by rw [z]; rfl)
    refine v_aload_n C 1 rfl rfl dX5_corrected_15 ?_
    refine v_getR C (am 2) fl_RX5_13 hA.k0 hA.r42 dX5_corrected_16 ?_
    refine v_iload_n C 2 rfl rfl dX5_corrected_19 ?_
    refine v_iald C (nI (cn q (10 + j))) hA.k2 (by rw [hA.n2]; exact vp_in_nI (by omega) (by decide)) ((congrArg _ (nI_clamp (by omega))).trans (hV.pm j hj)) dX5_corrected_20 ?_
    refine v_iconst C 1 (by decide) dX5_corrected_21 ?_
    refine v_icmp_ne C 43 (by decide) dX5_corrected_22 (fun c22 => ?_) (fun c22 => ?_)
    · have hn1 : ¬ cn q (10 + j) = 1 := fun z => c22 (by rw [z]; rfl)
      have h2 : cn q (10 + j) = 2 := by omega
      refine v_iload_n C 3 rfl rfl dX5_corrected_43 ?_
      refine v_aload_n C 1 rfl rfl dX5_corrected_44 ?_
      refine v_getR C (am 1) fl_RX5_9 hA.k0 hA.r41 dX5_corrected_45 ?_
      refine v_iload_n C 0 rfl rfl dX5_corrected_48 ?_
      refine v_iconst C 2 (by decide) dX5_corrected_49 ?_
      refine v_iadd C dX5_corrected_50 ?_
      rw [show nI (4 * j) + (2 : Int32) = nI (4 * j + 2) from nI_s _ 2]
      refine v_iald C (iO (zz q 1 j 2)) hA.k1 (by rw [hA.n1]; exact vp_in_nI (by omega) (by decide)) ((congrArg _ (nI_clamp (by omega))).trans (hV.p2 j hj h2 2 (by decide))) dX5_corrected_51 ?_
      refine v_isub C dX5_corrected_52 ?_
      refine v_aload_n C 1 rfl rfl dX5_corrected_53 ?_
      refine v_getR C (am 1) fl_RX5_9 hA.k0 hA.r41 dX5_corrected_54 ?_
      refine v_iload_n C 0 rfl rfl dX5_corrected_57 ?_
      refine v_iconst C 3 (by decide) dX5_corrected_58 ?_
      refine v_iadd C dX5_corrected_59 ?_
      rw [show nI (4 * j) + (3 : Int32) = nI (4 * j + 3) from nI_s _ 3]
      refine v_iald C (iO (zz q 1 j 3)) hA.k1 (by rw [hA.n1]; exact vp_in_nI (by omega) (by decide)) ((congrArg _ (nI_clamp (by omega))).trans (hV.p2 j hj h2 3 (by decide))) dX5_corrected_60 ?_
      refine v_aload_n C 1 rfl rfl dX5_corrected_61 ?_
      refine v_getR C (am 1) fl_RX5_9 hA.k0 hA.r41 dX5_corrected_62 ?_
      refine v_iload_n C 0 rfl rfl dX5_corrected_65 ?_
      refine v_iconst C 1 (by decide) dX5_corrected_66 ?_
      refine v_iadd C dX5_corrected_67 ?_
      rw [show nI (4 * j) + (1 : Int32) = nI (4 * j + 1) from nI_s _ 1]
      refine v_iald C (iO (zz q 1 j 1)) hA.k1 (by rw [hA.n1]; exact vp_in_nI (by omega) (by decide)) ((congrArg _ (nI_clamp (by omega))).trans (hV.p2 j hj h2 1 (by decide))) dX5_corrected_68 ?_
      refine v_isub C dX5_corrected_69 ?_
      refine v_imul C dX5_corrected_70 ?_
      refine v_istore C [(4, .int ((t - (iO (zz q 1 j 2))) * ((iO (zz q 1 j 3)) - (iO (zz q 1 j 1))))), (3, .int (nI (4 * j))), (0, .ref (am 0)), (1, .int (nI j)), (2, .int t)] (by decide) rfl dX5_corrected_71 ?_
      refine v_aload_n C 2 rfl rfl dX5_corrected_73 ?_
      refine v_getR C (am 1) fl_RX5_9 hA.k0 hA.r41 dX5_corrected_74 ?_
      refine v_iload_n C 1 rfl rfl dX5_corrected_77 ?_
      refine v_iconst C 3 (by decide) dX5_corrected_78 ?_
      refine v_iadd C dX5_corrected_79 ?_
      rw [show nI (4 * j) + (3 : Int32) = nI (4 * j + 3) from nI_s _ 3]
      refine v_iald C (iO (zz q 1 j 3)) hA.k1 (by rw [hA.n1]; exact vp_in_nI (by omega) (by decide)) ((congrArg _ (nI_clamp (by omega))).trans (hV.p2 j hj h2 3 (by decide))) dX5_corrected_80 ?_
      refine v_iload C 0 rfl dX5_corrected_81 ?_
      refine v_aload_n C 2 rfl rfl dX5_corrected_83 ?_
      refine v_getR C (am 1) fl_RX5_9 hA.k0 hA.r41 dX5_corrected_84 ?_
      refine v_iload_n C 1 rfl rfl dX5_corrected_87 ?_
      refine v_iconst C 2 (by decide) dX5_corrected_88 ?_
      refine v_iadd C dX5_corrected_89 ?_
      rw [show nI (4 * j) + (2 : Int32) = nI (4 * j + 2) from nI_s _ 2]
      refine v_iald C (iO (zz q 1 j 2)) hA.k1 (by rw [hA.n1]; exact vp_in_nI (by omega) (by decide)) ((congrArg _ (nI_clamp (by omega))).trans (hV.p2 j hj h2 2 (by decide))) dX5_corrected_90 ?_
      refine v_aload_n C 2 rfl rfl dX5_corrected_91 ?_
      refine v_getR C (am 1) fl_RX5_9 hA.k0 hA.r41 dX5_corrected_92 ?_
      refine v_iload_n C 1 rfl rfl dX5_corrected_95 ?_
      refine v_iald C (iO (zz q 1 j 0)) hA.k1 (by rw [hA.n1]; exact vp_in_nI (by omega) (by decide)) ((congrArg _ (nI_clamp (by omega))).trans (hV.p2 j hj h2 0 (by decide))) dX5_corrected_96 ?_
      refine v_isub C dX5_corrected_97 ?_
      refine v_callSi C (st := [.int (iO (zz q 1 j 3))]) [.int ((t - (iO (zz q 1 j 2))) * ((iO (zz q 1 j 3)) - (iO (zz q 1 j 1)))), .int ((iO (zz q 1 j 2)) - (iO (zz q 1 j 0)))] (c_J9_floorDiv_7cf53 l S ((t - (iO (zz q 1 j 2))) * ((iO (zz q 1 j 3)) - (iO (zz q 1 j 1)))) ((iO (zz q 1 j 2)) - (iO (zz q 1 j 0))) (crt_d hB hj ht hn0 hn1)) ml_RX5_87 ms_yJ9_floorDiv_7cf53 rfl (Nat.le_of_ble_eq_true rfl) (Nat.le_of_ble_eq_true rfl) (Nat.le_of_ble_eq_true rfl) (Nat.le_of_ble_eq_true rfl) (Nat.le_of_ble_eq_true rfl) dX5_corrected_98 (fun r u h => ?_) _ rfl
      obtain ⟨rfl, rfl⟩ := h
      refine v_iadd C dX5_corrected_101 ?_
      exact v_iret C hRT (Nat.le_of_ble_eq_true rfl) (Nat.le_of_ble_eq_true rfl) dX5_corrected_102 ⟨_, rfl, (crt_M hB hj ht hn0 hn1).symm, rfl⟩
    · have h1 : cn q (10 + j) = 1 := nI_inj (b := 1) c22 (by omega) (by decide)
      refine v_iload_n C 3 rfl rfl dX5_corrected_25 ?_
      refine v_aload_n C 1 rfl rfl dX5_corrected_26 ?_
      refine v_getR C (am 1) fl_RX5_9 hA.k0 hA.r41 dX5_corrected_27 ?_
      refine v_iload_n C 0 rfl rfl dX5_corrected_30 ?_
      refine v_iconst C 1 (by decide) dX5_corrected_31 ?_
      refine v_iadd C dX5_corrected_32 ?_
      rw [show nI (4 * j) + (1 : Int32) = nI (4 * j + 1) from nI_s _ 1]
      refine v_iald C (iO (zz q 1 j 3)) hA.k1 (by rw [hA.n1]; exact vp_in_nI (by omega) (by decide)) ((congrArg _ (nI_clamp (by omega))).trans (hV.p1 j hj h1 1 (by decide))) dX5_corrected_33 ?_
      refine v_iadd C dX5_corrected_34 ?_
      refine v_aload_n C 1 rfl rfl dX5_corrected_35 ?_
      refine v_getR C (am 1) fl_RX5_9 hA.k0 hA.r41 dX5_corrected_36 ?_
      refine v_iload_n C 0 rfl rfl dX5_corrected_39 ?_
      refine v_iald C (iO (zz q 1 j 2)) hA.k1 (by rw [hA.n1]; exact vp_in_nI (by omega) (by decide)) ((congrArg _ (nI_clamp (by omega))).trans (hV.p1 j hj h1 0 (by decide))) dX5_corrected_40 ?_
      refine v_isub C dX5_corrected_41 ?_
      exact v_iret C hRT (Nat.le_of_ble_eq_true rfl) (Nat.le_of_ble_eq_true rfl) dX5_corrected_42 ⟨_, rfl, crt_1 h1 hn0, rfl⟩
  · refine v_iload_n C 3 rfl rfl dX5_corrected_13 ?_
    exact v_iret C hRT (Nat.le_of_ble_eq_true rfl) (Nat.le_of_ble_eq_true rfl) dX5_corrected_14 ⟨_, rfl, by unfold crt; rw [if_pos (nI_z c10 (by omega)), iO_of], rfl⟩
