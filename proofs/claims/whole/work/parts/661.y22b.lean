set_option maxRecDepth 100000 in
set_option maxHeartbeats 4000000 in
theorem c_X5_begins (l : Launch) (S : HS) (am : AM) (q : AS) (hB : BI q) (hA : NA S am (cn q 1)) (hV : NV S am q) (hSG : SGB q) (r : Nat) (hr : r < cn q 0)  : cM l yX5_begins cX5_begins 3 (Option.none : Option Jvm.ClassFile.FieldType) 8 [.ref (am 0), .int (nI r)] S (pV fun u => ∃ am2 : AM, (∀ i, i < 20 → am2 i = am i) ∧ NA u am2 (cn (bgnA q r) 1) ∧ NV u am2 (bgnA q r) ∧ FrP S u am) 2 668 := by
  refine cM_intro (by decide +kernel) cd_X5_begins (Nat.le_of_ble_eq_true rfl) ?_
  intro pP eE sS mM aA bB tT cC G A C hRT hin
  refine V.lvs (lv2 := [(0, .ref (am 0)), (1, .int (nI r))]) rfl ?_
  have h04 := hB.b0
  refine v_aload_n C 0 rfl rfl dX5_begins_0 ?_
  refine v_callVi C (st := []) [] (c_X5_live l S am q hB hA hV) ml_RX5_166 mi_yX5_live hA.k0 (by decide) (by decide +kernel) rfl (Nat.le_of_ble_eq_true rfl) (Nat.le_of_ble_eq_true rfl) (Nat.le_of_ble_eq_true rfl) (Nat.le_of_ble_eq_true rfl) (Nat.le_of_ble_eq_true rfl) dX5_begins_1 (fun r u h => ?_) _ rfl
  obtain ⟨rfl, rfl⟩ := h
  refine v_bipush C 6 (by decide) dX5_begins_4 ?_
  refine v_icmp_eq C 18 (by decide) dX5_begins_6 (fun c6 => ?_) (fun c6 => ?_)
  · refine v_aload_n C 0 rfl rfl dX5_begins_18 ?_
    refine v_dup C rfl dX5_begins_19 ?_
    refine v_getI C (nI (cn q 3)) fl_RX5_170 hA.k0 hV.v56 dX5_begins_20 ?_
    refine v_iconst C 1 (by decide) dX5_begins_23 ?_
    refine v_iadd C dX5_begins_24 ?_
    refine v_putI C fl_RX5_170 hA.k0 rfl rfl dX5_begins_25 ?_
    exact v_vret C hRT (Nat.le_of_ble_eq_true rfl) (Nat.le_of_ble_eq_true rfl) dX5_begins_28 (by have e9 : bgnA q r = cs q 3 (cn q 3 + 1) := bgn_drop (Or.inl (by have := nI_inj (b := 6) c6 (by have := hB.bv; unfold lcn; omega) (by decide); omega)); rw [e9]; exact ⟨rfl, am, fun _ _ => rfl, hA.I, NV.drop hA hV, ⟨hI_sI2 (fun z => absurd z.1 (by decide)), aI_sI _ _ _ _ _⟩⟩)
  · refine v_aload_n C 0 rfl rfl dX5_begins_9 ?_
    refine v_getI C (nI (cn q 1)) fl_RX5_71 hA.k0 hV.v44 dX5_begins_10 ?_
    refine v_bipush C 60 (by decide) dX5_begins_13 ?_
    refine v_icmp_ne C 29 (by decide) dX5_begins_15 (fun c15 => ?_) (fun c15 => ?_)
    · have hl6 : ¬ lcn q = 6 := fun z => c6 (by rw [z]; rfl)
      have hl7 : lcn q ≤ 6 := hB.bv
      have h60 : cn q 1 < 60 := by have : ¬ cn q 1 = 60 := fun z => c15 (by rw [z]; rfl); have := hA.hn; omega
      have hneg : ¬ (6 ≤ lcn q ∨ 60 ≤ cn q 1) := by omega
      have n5_3 : am 5 ≠ am 3 := hA.apt (by decide) (by decide) (by decide)
      have n6_3 : am 6 ≠ am 3 := hA.apt (by decide) (by decide) (by decide)
      have n7_3 : am 7 ≠ am 3 := hA.apt (by decide) (by decide) (by decide)
      have n8_3 : am 8 ≠ am 3 := hA.apt (by decide) (by decide) (by decide)
      have n10_3 : am 10 ≠ am 3 := hA.apt (by decide) (by decide) (by decide)
      have hv44 := hV.v44
      refine v_iconst C 0 (by decide) dX5_begins_29 ?_
      refine v_istore_n C [(2, .int 0), (0, .ref (am 0)), (1, .int (nI r))] (by decide) rfl rfl dX5_begins_30 ?_
      refine v_iload_n C 0 rfl rfl dX5_begins_31 ?_
      refine v_bipush C 9 (by decide) dX5_begins_32 ?_
      refine v_icmp_ge C 53 (by decide) dX5_begins_34 (fun q => absurd q (by decide)) (fun _ => ?_)
      refine v_aload_n C 1 rfl rfl dX5_begins_37 ?_
      refine v_aload_n C 1 rfl rfl dX5_begins_38 ?_
      refine v_getI C (nI (cn q 1)) fl_RX5_71 hA.k0 hV.v44 dX5_begins_39 ?_
      refine v_iload_n C 0 rfl rfl dX5_begins_42 ?_
      refine v_iconst C 0 (by decide) dX5_begins_43 ?_
      refine v_callVv C (st := []) [.int (nI (cn q 1)), .int 0, .int 0] (c_X5_lays l S 0 am (cn q 1) (cn q 1) 0 h60 (by omega) hA) ml_RX5_158 mi_yX5_lays hA.k0 (by decide) (by decide +kernel) rfl (Nat.le_of_ble_eq_true rfl) (Nat.le_of_ble_eq_true rfl) (Nat.le_of_ble_eq_true rfl) (Nat.le_of_ble_eq_true rfl) (Nat.le_of_ble_eq_true rfl) dX5_begins_44 (fun u h => ?_) _ rfl
      subst h
      have hB1 : NA (tI S (am 3) (9 * (cn q 1) + 0) 0) am (cn q 1) := hA.tI
      have hw1 : hI (tI S (am 3) (9 * (cn q 1) + 0) 0) 44 (am 0) = nI (cn q 1) := by rw [hI_tI]; exact hv44
      refine v_iinc C 1 0 [(2, .int 1), (0, .ref (am 0)), (1, .int (nI r))] rfl (by decide) (by decide) rfl dX5_begins_47 ?_
      refine v_goto C 31 (by decide) dX5_begins_50 ?_
      refine v_iload_n C 0 rfl rfl dX5_begins_31 ?_
      refine v_bipush C 9 (by decide) dX5_begins_32 ?_
      refine v_icmp_ge C 53 (by decide) dX5_begins_34 (fun q => absurd q (by decide)) (fun _ => ?_)
      refine v_aload_n C 1 rfl rfl dX5_begins_37 ?_
      refine v_aload_n C 1 rfl rfl dX5_begins_38 ?_
      refine v_getI C (nI (cn q 1)) fl_RX5_71 hB1.k0 hw1 dX5_begins_39 ?_
      refine v_iload_n C 0 rfl rfl dX5_begins_42 ?_
      refine v_iconst C 0 (by decide) dX5_begins_43 ?_
      refine v_callVv C (st := []) [.int (nI (cn q 1)), .int 1, .int 0] (c_X5_lays l (tI S (am 3) (9 * (cn q 1) + 0) 0) 0 am (cn q 1) (cn q 1) 1 h60 (by omega) hB1) ml_RX5_158 mi_yX5_lays hB1.k0 (by decide) (by decide +kernel) rfl (Nat.le_of_ble_eq_true rfl) (Nat.le_of_ble_eq_true rfl) (Nat.le_of_ble_eq_true rfl) (Nat.le_of_ble_eq_true rfl) (Nat.le_of_ble_eq_true rfl) dX5_begins_44 (fun u h => ?_) _ rfl
      subst h
      have hB2 : NA (tI (tI S (am 3) (9 * (cn q 1) + 0) 0) (am 3) (9 * (cn q 1) + 1) 0) am (cn q 1) := hB1.tI
      have hw2 : hI (tI (tI S (am 3) (9 * (cn q 1) + 0) 0) (am 3) (9 * (cn q 1) + 1) 0) 44 (am 0) = nI (cn q 1) := by rw [hI_tI]; exact hw1
      refine v_iinc C 2 0 [(2, .int 2), (0, .ref (am 0)), (1, .int (nI r))] rfl (by decide) (by decide) rfl dX5_begins_47 ?_
      refine v_goto C 31 (by decide) dX5_begins_50 ?_
      refine v_iload_n C 0 rfl rfl dX5_begins_31 ?_
      refine v_bipush C 9 (by decide) dX5_begins_32 ?_
      refine v_icmp_ge C 53 (by decide) dX5_begins_34 (fun q => absurd q (by decide)) (fun _ => ?_)
      refine v_aload_n C 1 rfl rfl dX5_begins_37 ?_
      refine v_aload_n C 1 rfl rfl dX5_begins_38 ?_
      refine v_getI C (nI (cn q 1)) fl_RX5_71 hB2.k0 hw2 dX5_begins_39 ?_
      refine v_iload_n C 0 rfl rfl dX5_begins_42 ?_
      refine v_iconst C 0 (by decide) dX5_begins_43 ?_
      refine v_callVv C (st := []) [.int (nI (cn q 1)), .int 2, .int 0] (c_X5_lays l (tI (tI S (am 3) (9 * (cn q 1) + 0) 0) (am 3) (9 * (cn q 1) + 1) 0) 0 am (cn q 1) (cn q 1) 2 h60 (by omega) hB2) ml_RX5_158 mi_yX5_lays hB2.k0 (by decide) (by decide +kernel) rfl (Nat.le_of_ble_eq_true rfl) (Nat.le_of_ble_eq_true rfl) (Nat.le_of_ble_eq_true rfl) (Nat.le_of_ble_eq_true rfl) (Nat.le_of_ble_eq_true rfl) dX5_begins_44 (fun u h => ?_) _ rfl
      subst h
      have hB3 : NA (tI (tI (tI S (am 3) (9 * (cn q 1) + 0) 0) (am 3) (9 * (cn q 1) + 1) 0) (am 3) (9 * (cn q 1) + 2) 0) am (cn q 1) := hB2.tI
      have hw3 : hI (tI (tI (tI S (am 3) (9 * (cn q 1) + 0) 0) (am 3) (9 * (cn q 1) + 1) 0) (am 3) (9 * (cn q 1) + 2) 0) 44 (am 0) = nI (cn q 1) := by rw [hI_tI]; exact hw2
      refine v_iinc C 3 0 [(2, .int 3), (0, .ref (am 0)), (1, .int (nI r))] rfl (by decide) (by decide) rfl dX5_begins_47 ?_
      refine v_goto C 31 (by decide) dX5_begins_50 ?_
      refine v_iload_n C 0 rfl rfl dX5_begins_31 ?_
      refine v_bipush C 9 (by decide) dX5_begins_32 ?_
      refine v_icmp_ge C 53 (by decide) dX5_begins_34 (fun q => absurd q (by decide)) (fun _ => ?_)
      refine v_aload_n C 1 rfl rfl dX5_begins_37 ?_
      refine v_aload_n C 1 rfl rfl dX5_begins_38 ?_
      refine v_getI C (nI (cn q 1)) fl_RX5_71 hB3.k0 hw3 dX5_begins_39 ?_
      refine v_iload_n C 0 rfl rfl dX5_begins_42 ?_
      refine v_iconst C 0 (by decide) dX5_begins_43 ?_
      refine v_callVv C (st := []) [.int (nI (cn q 1)), .int 3, .int 0] (c_X5_lays l (tI (tI (tI S (am 3) (9 * (cn q 1) + 0) 0) (am 3) (9 * (cn q 1) + 1) 0) (am 3) (9 * (cn q 1) + 2) 0) 0 am (cn q 1) (cn q 1) 3 h60 (by omega) hB3) ml_RX5_158 mi_yX5_lays hB3.k0 (by decide) (by decide +kernel) rfl (Nat.le_of_ble_eq_true rfl) (Nat.le_of_ble_eq_true rfl) (Nat.le_of_ble_eq_true rfl) (Nat.le_of_ble_eq_true rfl) (Nat.le_of_ble_eq_true rfl) dX5_begins_44 (fun u h => ?_) _ rfl
      subst h
      have hB4 : NA (tI (tI (tI (tI S (am 3) (9 * (cn q 1) + 0) 0) (am 3) (9 * (cn q 1) + 1) 0) (am 3) (9 * (cn q 1) + 2) 0) (am 3) (9 * (cn q 1) + 3) 0) am (cn q 1) := hB3.tI
      have hw4 : hI (tI (tI (tI (tI S (am 3) (9 * (cn q 1) + 0) 0) (am 3) (9 * (cn q 1) + 1) 0) (am 3) (9 * (cn q 1) + 2) 0) (am 3) (9 * (cn q 1) + 3) 0) 44 (am 0) = nI (cn q 1) := by rw [hI_tI]; exact hw3
      refine v_iinc C 4 0 [(2, .int 4), (0, .ref (am 0)), (1, .int (nI r))] rfl (by decide) (by decide) rfl dX5_begins_47 ?_
      refine v_goto C 31 (by decide) dX5_begins_50 ?_
      refine v_iload_n C 0 rfl rfl dX5_begins_31 ?_
      refine v_bipush C 9 (by decide) dX5_begins_32 ?_
      refine v_icmp_ge C 53 (by decide) dX5_begins_34 (fun q => absurd q (by decide)) (fun _ => ?_)
      refine v_aload_n C 1 rfl rfl dX5_begins_37 ?_
      refine v_aload_n C 1 rfl rfl dX5_begins_38 ?_
      refine v_getI C (nI (cn q 1)) fl_RX5_71 hB4.k0 hw4 dX5_begins_39 ?_
      refine v_iload_n C 0 rfl rfl dX5_begins_42 ?_
      refine v_iconst C 0 (by decide) dX5_begins_43 ?_
      refine v_callVv C (st := []) [.int (nI (cn q 1)), .int 4, .int 0] (c_X5_lays l (tI (tI (tI (tI S (am 3) (9 * (cn q 1) + 0) 0) (am 3) (9 * (cn q 1) + 1) 0) (am 3) (9 * (cn q 1) + 2) 0) (am 3) (9 * (cn q 1) + 3) 0) 0 am (cn q 1) (cn q 1) 4 h60 (by omega) hB4) ml_RX5_158 mi_yX5_lays hB4.k0 (by decide) (by decide +kernel) rfl (Nat.le_of_ble_eq_true rfl) (Nat.le_of_ble_eq_true rfl) (Nat.le_of_ble_eq_true rfl) (Nat.le_of_ble_eq_true rfl) (Nat.le_of_ble_eq_true rfl) dX5_begins_44 (fun u h => ?_) _ rfl
      subst h
      have hB5 : NA (tI (tI (tI (tI (tI S (am 3) (9 * (cn q 1) + 0) 0) (am 3) (9 * (cn q 1) + 1) 0) (am 3) (9 * (cn q 1) + 2) 0) (am 3) (9 * (cn q 1) + 3) 0) (am 3) (9 * (cn q 1) + 4) 0) am (cn q 1) := hB4.tI
      have hw5 : hI (tI (tI (tI (tI (tI S (am 3) (9 * (cn q 1) + 0) 0) (am 3) (9 * (cn q 1) + 1) 0) (am 3) (9 * (cn q 1) + 2) 0) (am 3) (9 * (cn q 1) + 3) 0) (am 3) (9 * (cn q 1) + 4) 0) 44 (am 0) = nI (cn q 1) := by rw [hI_tI]; exact hw4
      refine v_iinc C 5 0 [(2, .int 5), (0, .ref (am 0)), (1, .int (nI r))] rfl (by decide) (by decide) rfl dX5_begins_47 ?_
      refine v_goto C 31 (by decide) dX5_begins_50 ?_
      refine v_iload_n C 0 rfl rfl dX5_begins_31 ?_
      refine v_bipush C 9 (by decide) dX5_begins_32 ?_
      refine v_icmp_ge C 53 (by decide) dX5_begins_34 (fun q => absurd q (by decide)) (fun _ => ?_)
      refine v_aload_n C 1 rfl rfl dX5_begins_37 ?_
      refine v_aload_n C 1 rfl rfl dX5_begins_38 ?_
      refine v_getI C (nI (cn q 1)) fl_RX5_71 hB5.k0 hw5 dX5_begins_39 ?_
      refine v_iload_n C 0 rfl rfl dX5_begins_42 ?_
      refine v_iconst C 0 (by decide) dX5_begins_43 ?_
      refine v_callVv C (st := []) [.int (nI (cn q 1)), .int 5, .int 0] (c_X5_lays l (tI (tI (tI (tI (tI S (am 3) (9 * (cn q 1) + 0) 0) (am 3) (9 * (cn q 1) + 1) 0) (am 3) (9 * (cn q 1) + 2) 0) (am 3) (9 * (cn q 1) + 3) 0) (am 3) (9 * (cn q 1) + 4) 0) 0 am (cn q 1) (cn q 1) 5 h60 (by omega) hB5) ml_RX5_158 mi_yX5_lays hB5.k0 (by decide) (by decide +kernel) rfl (Nat.le_of_ble_eq_true rfl) (Nat.le_of_ble_eq_true rfl) (Nat.le_of_ble_eq_true rfl) (Nat.le_of_ble_eq_true rfl) (Nat.le_of_ble_eq_true rfl) dX5_begins_44 (fun u h => ?_) _ rfl
      subst h
      have hB6 : NA (tI (tI (tI (tI (tI (tI S (am 3) (9 * (cn q 1) + 0) 0) (am 3) (9 * (cn q 1) + 1) 0) (am 3) (9 * (cn q 1) + 2) 0) (am 3) (9 * (cn q 1) + 3) 0) (am 3) (9 * (cn q 1) + 4) 0) (am 3) (9 * (cn q 1) + 5) 0) am (cn q 1) := hB5.tI
      have hw6 : hI (tI (tI (tI (tI (tI (tI S (am 3) (9 * (cn q 1) + 0) 0) (am 3) (9 * (cn q 1) + 1) 0) (am 3) (9 * (cn q 1) + 2) 0) (am 3) (9 * (cn q 1) + 3) 0) (am 3) (9 * (cn q 1) + 4) 0) (am 3) (9 * (cn q 1) + 5) 0) 44 (am 0) = nI (cn q 1) := by rw [hI_tI]; exact hw5
      refine v_iinc C 6 0 [(2, .int 6), (0, .ref (am 0)), (1, .int (nI r))] rfl (by decide) (by decide) rfl dX5_begins_47 ?_
      refine v_goto C 31 (by decide) dX5_begins_50 ?_
      refine v_iload_n C 0 rfl rfl dX5_begins_31 ?_
      refine v_bipush C 9 (by decide) dX5_begins_32 ?_
      refine v_icmp_ge C 53 (by decide) dX5_begins_34 (fun q => absurd q (by decide)) (fun _ => ?_)
      refine v_aload_n C 1 rfl rfl dX5_begins_37 ?_
      refine v_aload_n C 1 rfl rfl dX5_begins_38 ?_
      refine v_getI C (nI (cn q 1)) fl_RX5_71 hB6.k0 hw6 dX5_begins_39 ?_
      refine v_iload_n C 0 rfl rfl dX5_begins_42 ?_
      refine v_iconst C 0 (by decide) dX5_begins_43 ?_
      refine v_callVv C (st := []) [.int (nI (cn q 1)), .int 6, .int 0] (c_X5_lays l (tI (tI (tI (tI (tI (tI S (am 3) (9 * (cn q 1) + 0) 0) (am 3) (9 * (cn q 1) + 1) 0) (am 3) (9 * (cn q 1) + 2) 0) (am 3) (9 * (cn q 1) + 3) 0) (am 3) (9 * (cn q 1) + 4) 0) (am 3) (9 * (cn q 1) + 5) 0) 0 am (cn q 1) (cn q 1) 6 h60 (by omega) hB6) ml_RX5_158 mi_yX5_lays hB6.k0 (by decide) (by decide +kernel) rfl (Nat.le_of_ble_eq_true rfl) (Nat.le_of_ble_eq_true rfl) (Nat.le_of_ble_eq_true rfl) (Nat.le_of_ble_eq_true rfl) (Nat.le_of_ble_eq_true rfl) dX5_begins_44 (fun u h => ?_) _ rfl
      subst h
      have hB7 : NA (tI (tI (tI (tI (tI (tI (tI S (am 3) (9 * (cn q 1) + 0) 0) (am 3) (9 * (cn q 1) + 1) 0) (am 3) (9 * (cn q 1) + 2) 0) (am 3) (9 * (cn q 1) + 3) 0) (am 3) (9 * (cn q 1) + 4) 0) (am 3) (9 * (cn q 1) + 5) 0) (am 3) (9 * (cn q 1) + 6) 0) am (cn q 1) := hB6.tI
      have hw7 : hI (tI (tI (tI (tI (tI (tI (tI S (am 3) (9 * (cn q 1) + 0) 0) (am 3) (9 * (cn q 1) + 1) 0) (am 3) (9 * (cn q 1) + 2) 0) (am 3) (9 * (cn q 1) + 3) 0) (am 3) (9 * (cn q 1) + 4) 0) (am 3) (9 * (cn q 1) + 5) 0) (am 3) (9 * (cn q 1) + 6) 0) 44 (am 0) = nI (cn q 1) := by rw [hI_tI]; exact hw6
      refine v_iinc C 7 0 [(2, .int 7), (0, .ref (am 0)), (1, .int (nI r))] rfl (by decide) (by decide) rfl dX5_begins_47 ?_
      refine v_goto C 31 (by decide) dX5_begins_50 ?_
      refine v_iload_n C 0 rfl rfl dX5_begins_31 ?_
      refine v_bipush C 9 (by decide) dX5_begins_32 ?_
      refine v_icmp_ge C 53 (by decide) dX5_begins_34 (fun q => absurd q (by decide)) (fun _ => ?_)
      refine v_aload_n C 1 rfl rfl dX5_begins_37 ?_
      refine v_aload_n C 1 rfl rfl dX5_begins_38 ?_
      refine v_getI C (nI (cn q 1)) fl_RX5_71 hB7.k0 hw7 dX5_begins_39 ?_
      refine v_iload_n C 0 rfl rfl dX5_begins_42 ?_
      refine v_iconst C 0 (by decide) dX5_begins_43 ?_
      refine v_callVv C (st := []) [.int (nI (cn q 1)), .int 7, .int 0] (c_X5_lays l (tI (tI (tI (tI (tI (tI (tI S (am 3) (9 * (cn q 1) + 0) 0) (am 3) (9 * (cn q 1) + 1) 0) (am 3) (9 * (cn q 1) + 2) 0) (am 3) (9 * (cn q 1) + 3) 0) (am 3) (9 * (cn q 1) + 4) 0) (am 3) (9 * (cn q 1) + 5) 0) (am 3) (9 * (cn q 1) + 6) 0) 0 am (cn q 1) (cn q 1) 7 h60 (by omega) hB7) ml_RX5_158 mi_yX5_lays hB7.k0 (by decide) (by decide +kernel) rfl (Nat.le_of_ble_eq_true rfl) (Nat.le_of_ble_eq_true rfl) (Nat.le_of_ble_eq_true rfl) (Nat.le_of_ble_eq_true rfl) (Nat.le_of_ble_eq_true rfl) dX5_begins_44 (fun u h => ?_) _ rfl
      subst h
      have hB8 : NA (tI (tI (tI (tI (tI (tI (tI (tI S (am 3) (9 * (cn q 1) + 0) 0) (am 3) (9 * (cn q 1) + 1) 0) (am 3) (9 * (cn q 1) + 2) 0) (am 3) (9 * (cn q 1) + 3) 0) (am 3) (9 * (cn q 1) + 4) 0) (am 3) (9 * (cn q 1) + 5) 0) (am 3) (9 * (cn q 1) + 6) 0) (am 3) (9 * (cn q 1) + 7) 0) am (cn q 1) := hB7.tI
      have hw8 : hI (tI (tI (tI (tI (tI (tI (tI (tI S (am 3) (9 * (cn q 1) + 0) 0) (am 3) (9 * (cn q 1) + 1) 0) (am 3) (9 * (cn q 1) + 2) 0) (am 3) (9 * (cn q 1) + 3) 0) (am 3) (9 * (cn q 1) + 4) 0) (am 3) (9 * (cn q 1) + 5) 0) (am 3) (9 * (cn q 1) + 6) 0) (am 3) (9 * (cn q 1) + 7) 0) 44 (am 0) = nI (cn q 1) := by rw [hI_tI]; exact hw7
      refine v_iinc C 8 0 [(2, .int 8), (0, .ref (am 0)), (1, .int (nI r))] rfl (by decide) (by decide) rfl dX5_begins_47 ?_
      refine v_goto C 31 (by decide) dX5_begins_50 ?_
      refine v_iload_n C 0 rfl rfl dX5_begins_31 ?_
      refine v_bipush C 9 (by decide) dX5_begins_32 ?_
      refine v_icmp_ge C 53 (by decide) dX5_begins_34 (fun q => absurd q (by decide)) (fun _ => ?_)
      refine v_aload_n C 1 rfl rfl dX5_begins_37 ?_
      refine v_aload_n C 1 rfl rfl dX5_begins_38 ?_
      refine v_getI C (nI (cn q 1)) fl_RX5_71 hB8.k0 hw8 dX5_begins_39 ?_
      refine v_iload_n C 0 rfl rfl dX5_begins_42 ?_
      refine v_iconst C 0 (by decide) dX5_begins_43 ?_
      refine v_callVv C (st := []) [.int (nI (cn q 1)), .int 8, .int 0] (c_X5_lays l (tI (tI (tI (tI (tI (tI (tI (tI S (am 3) (9 * (cn q 1) + 0) 0) (am 3) (9 * (cn q 1) + 1) 0) (am 3) (9 * (cn q 1) + 2) 0) (am 3) (9 * (cn q 1) + 3) 0) (am 3) (9 * (cn q 1) + 4) 0) (am 3) (9 * (cn q 1) + 5) 0) (am 3) (9 * (cn q 1) + 6) 0) (am 3) (9 * (cn q 1) + 7) 0) 0 am (cn q 1) (cn q 1) 8 h60 (by omega) hB8) ml_RX5_158 mi_yX5_lays hB8.k0 (by decide) (by decide +kernel) rfl (Nat.le_of_ble_eq_true rfl) (Nat.le_of_ble_eq_true rfl) (Nat.le_of_ble_eq_true rfl) (Nat.le_of_ble_eq_true rfl) (Nat.le_of_ble_eq_true rfl) dX5_begins_44 (fun u h => ?_) _ rfl
      subst h
      have hB9 : NA (tI (tI (tI (tI (tI (tI (tI (tI (tI S (am 3) (9 * (cn q 1) + 0) 0) (am 3) (9 * (cn q 1) + 1) 0) (am 3) (9 * (cn q 1) + 2) 0) (am 3) (9 * (cn q 1) + 3) 0) (am 3) (9 * (cn q 1) + 4) 0) (am 3) (9 * (cn q 1) + 5) 0) (am 3) (9 * (cn q 1) + 6) 0) (am 3) (9 * (cn q 1) + 7) 0) (am 3) (9 * (cn q 1) + 8) 0) am (cn q 1) := hB8.tI
      have hw9 : hI (tI (tI (tI (tI (tI (tI (tI (tI (tI S (am 3) (9 * (cn q 1) + 0) 0) (am 3) (9 * (cn q 1) + 1) 0) (am 3) (9 * (cn q 1) + 2) 0) (am 3) (9 * (cn q 1) + 3) 0) (am 3) (9 * (cn q 1) + 4) 0) (am 3) (9 * (cn q 1) + 5) 0) (am 3) (9 * (cn q 1) + 6) 0) (am 3) (9 * (cn q 1) + 7) 0) (am 3) (9 * (cn q 1) + 8) 0) 44 (am 0) = nI (cn q 1) := by rw [hI_tI]; exact hw8
      refine v_iinc C 9 0 [(2, .int 9), (0, .ref (am 0)), (1, .int (nI r))] rfl (by decide) (by decide) rfl dX5_begins_47 ?_
      refine v_goto C 31 (by decide) dX5_begins_50 ?_
      refine v_iload_n C 0 rfl rfl dX5_begins_31 ?_
      refine v_bipush C 9 (by decide) dX5_begins_32 ?_
      refine v_icmp_ge C 53 (by decide) dX5_begins_34 (fun _ => ?_) (fun q => absurd (by decide) q)
      refine v_aload_n C 1 rfl rfl dX5_begins_53 ?_
      refine v_aload_n C 1 rfl rfl dX5_begins_54 ?_
      refine v_getI C (nI (cn q 1)) fl_RX5_71 hB9.k0 hw9 dX5_begins_55 ?_
      refine v_iconst C 0 (by decide) dX5_begins_58 ?_
      refine v_aload_n C 1 rfl rfl dX5_begins_59 ?_
      refine v_getR C (am 6) fl_RX5_28 hB9.k0 hB9.r47 dX5_begins_60 ?_
      refine v_iload_n C 2 rfl rfl dX5_begins_63 ?_
      refine v_iald C (iO (zz q 2 r 0)) hB9.k6 (vpi hB9.n6 (vp_in_nI (by omega) (by decide))) (by rw [nI_clamp (by omega), aI_tI2 n6_3, aI_tI2 n6_3, aI_tI2 n6_3, aI_tI2 n6_3, aI_tI2 n6_3, aI_tI2 n6_3, aI_tI2 n6_3, aI_tI2 n6_3, aI_tI2 n6_3]; exact hV.t6 r (by omega)) dX5_begins_64 ?_
      refine v_callVv C (st := []) [.int (nI (cn q 1)), .int 0, .int (iO (zz q 2 r 0))] (c_X5_lays l (tI (tI (tI (tI (tI (tI (tI (tI (tI S (am 3) (9 * (cn q 1) + 0) 0) (am 3) (9 * (cn q 1) + 1) 0) (am 3) (9 * (cn q 1) + 2) 0) (am 3) (9 * (cn q 1) + 3) 0) (am 3) (9 * (cn q 1) + 4) 0) (am 3) (9 * (cn q 1) + 5) 0) (am 3) (9 * (cn q 1) + 6) 0) (am 3) (9 * (cn q 1) + 7) 0) (am 3) (9 * (cn q 1) + 8) 0) (iO (zz q 2 r 0)) am (cn q 1) (cn q 1) 0 h60 (by omega) hB9) ml_RX5_158 mi_yX5_lays hB9.k0 (by decide) (by decide +kernel) rfl (Nat.le_of_ble_eq_true rfl) (Nat.le_of_ble_eq_true rfl) (Nat.le_of_ble_eq_true rfl) (Nat.le_of_ble_eq_true rfl) (Nat.le_of_ble_eq_true rfl) dX5_begins_65 (fun u h => ?_) _ rfl
      subst h
      have hB10 : NA (tI (tI (tI (tI (tI (tI (tI (tI (tI (tI S (am 3) (9 * (cn q 1) + 0) 0) (am 3) (9 * (cn q 1) + 1) 0) (am 3) (9 * (cn q 1) + 2) 0) (am 3) (9 * (cn q 1) + 3) 0) (am 3) (9 * (cn q 1) + 4) 0) (am 3) (9 * (cn q 1) + 5) 0) (am 3) (9 * (cn q 1) + 6) 0) (am 3) (9 * (cn q 1) + 7) 0) (am 3) (9 * (cn q 1) + 8) 0) (am 3) (9 * (cn q 1) + 0) (iO (zz q 2 r 0))) am (cn q 1) := hB9.tI
      have hw10 : hI (tI (tI (tI (tI (tI (tI (tI (tI (tI (tI S (am 3) (9 * (cn q 1) + 0) 0) (am 3) (9 * (cn q 1) + 1) 0) (am 3) (9 * (cn q 1) + 2) 0) (am 3) (9 * (cn q 1) + 3) 0) (am 3) (9 * (cn q 1) + 4) 0) (am 3) (9 * (cn q 1) + 5) 0) (am 3) (9 * (cn q 1) + 6) 0) (am 3) (9 * (cn q 1) + 7) 0) (am 3) (9 * (cn q 1) + 8) 0) (am 3) (9 * (cn q 1) + 0) (iO (zz q 2 r 0))) 44 (am 0) = nI (cn q 1) := by rw [hI_tI]; exact hw9
      refine v_aload_n C 1 rfl rfl dX5_begins_68 ?_
      refine v_aload_n C 1 rfl rfl dX5_begins_69 ?_
      refine v_getI C (nI (cn q 1)) fl_RX5_71 hB10.k0 hw10 dX5_begins_70 ?_
      refine v_iconst C 1 (by decide) dX5_begins_73 ?_
      refine v_bipush C 16 (by decide) dX5_begins_74 ?_
      refine v_aload_n C 1 rfl rfl dX5_begins_76 ?_
      refine v_getR C (am 7) fl_RX5_31 hB10.k0 hB10.r48 dX5_begins_77 ?_
      refine v_iload_n C 2 rfl rfl dX5_begins_80 ?_
      refine v_iald C (iO (zz q 2 r 1)) hB10.k7 (vpi hB10.n7 (vp_in_nI (by omega) (by decide))) (by rw [nI_clamp (by omega), aI_tI2 n7_3, aI_tI2 n7_3, aI_tI2 n7_3, aI_tI2 n7_3, aI_tI2 n7_3, aI_tI2 n7_3, aI_tI2 n7_3, aI_tI2 n7_3, aI_tI2 n7_3, aI_tI2 n7_3]; exact hV.t7 r (by omega)) dX5_begins_81 ?_
      refine v_imul C dX5_begins_82 ?_
      rw [show (16 * (iO (zz q 2 r 1))) = iO (16 * zz q 2 r 1) from iO_mul 16 _]
      refine v_callVv C (st := []) [.int (nI (cn q 1)), .int 1, .int (iO (16 * zz q 2 r 1))] (c_X5_lays l (tI (tI (tI (tI (tI (tI (tI (tI (tI (tI S (am 3) (9 * (cn q 1) + 0) 0) (am 3) (9 * (cn q 1) + 1) 0) (am 3) (9 * (cn q 1) + 2) 0) (am 3) (9 * (cn q 1) + 3) 0) (am 3) (9 * (cn q 1) + 4) 0) (am 3) (9 * (cn q 1) + 5) 0) (am 3) (9 * (cn q 1) + 6) 0) (am 3) (9 * (cn q 1) + 7) 0) (am 3) (9 * (cn q 1) + 8) 0) (am 3) (9 * (cn q 1) + 0) (iO (zz q 2 r 0))) (iO (16 * zz q 2 r 1)) am (cn q 1) (cn q 1) 1 h60 (by omega) hB10) ml_RX5_158 mi_yX5_lays hB10.k0 (by decide) (by decide +kernel) rfl (Nat.le_of_ble_eq_true rfl) (Nat.le_of_ble_eq_true rfl) (Nat.le_of_ble_eq_true rfl) (Nat.le_of_ble_eq_true rfl) (Nat.le_of_ble_eq_true rfl) dX5_begins_83 (fun u h => ?_) _ rfl
      subst h
      have hB11 : NA (tI (tI (tI (tI (tI (tI (tI (tI (tI (tI (tI S (am 3) (9 * (cn q 1) + 0) 0) (am 3) (9 * (cn q 1) + 1) 0) (am 3) (9 * (cn q 1) + 2) 0) (am 3) (9 * (cn q 1) + 3) 0) (am 3) (9 * (cn q 1) + 4) 0) (am 3) (9 * (cn q 1) + 5) 0) (am 3) (9 * (cn q 1) + 6) 0) (am 3) (9 * (cn q 1) + 7) 0) (am 3) (9 * (cn q 1) + 8) 0) (am 3) (9 * (cn q 1) + 0) (iO (zz q 2 r 0))) (am 3) (9 * (cn q 1) + 1) (iO (16 * zz q 2 r 1))) am (cn q 1) := hB10.tI
      have hw11 : hI (tI (tI (tI (tI (tI (tI (tI (tI (tI (tI (tI S (am 3) (9 * (cn q 1) + 0) 0) (am 3) (9 * (cn q 1) + 1) 0) (am 3) (9 * (cn q 1) + 2) 0) (am 3) (9 * (cn q 1) + 3) 0) (am 3) (9 * (cn q 1) + 4) 0) (am 3) (9 * (cn q 1) + 5) 0) (am 3) (9 * (cn q 1) + 6) 0) (am 3) (9 * (cn q 1) + 7) 0) (am 3) (9 * (cn q 1) + 8) 0) (am 3) (9 * (cn q 1) + 0) (iO (zz q 2 r 0))) (am 3) (9 * (cn q 1) + 1) (iO (16 * zz q 2 r 1))) 44 (am 0) = nI (cn q 1) := by rw [hI_tI]; exact hw10
      refine v_aload_n C 1 rfl rfl dX5_begins_86 ?_
      refine v_aload_n C 1 rfl rfl dX5_begins_87 ?_
      refine v_getI C (nI (cn q 1)) fl_RX5_71 hB11.k0 hw11 dX5_begins_88 ?_
      refine v_iconst C 2 (by decide) dX5_begins_91 ?_
      refine v_bipush C 16 (by decide) dX5_begins_92 ?_
      refine v_aload_n C 1 rfl rfl dX5_begins_94 ?_
      refine v_getR C (am 8) fl_RX5_34 hB11.k0 hB11.r49 dX5_begins_95 ?_
      refine v_iload_n C 2 rfl rfl dX5_begins_98 ?_
      refine v_iald C (iO (zz q 2 r 2)) hB11.k8 (vpi hB11.n8 (vp_in_nI (by omega) (by decide))) (by rw [nI_clamp (by omega), aI_tI2 n8_3, aI_tI2 n8_3, aI_tI2 n8_3, aI_tI2 n8_3, aI_tI2 n8_3, aI_tI2 n8_3, aI_tI2 n8_3, aI_tI2 n8_3, aI_tI2 n8_3, aI_tI2 n8_3, aI_tI2 n8_3]; exact hV.t8 r (by omega)) dX5_begins_99 ?_
      refine v_imul C dX5_begins_100 ?_
      rw [show (16 * (iO (zz q 2 r 2))) = iO (16 * zz q 2 r 2) from iO_mul 16 _]
      refine v_callVv C (st := []) [.int (nI (cn q 1)), .int 2, .int (iO (16 * zz q 2 r 2))] (c_X5_lays l (tI (tI (tI (tI (tI (tI (tI (tI (tI (tI (tI S (am 3) (9 * (cn q 1) + 0) 0) (am 3) (9 * (cn q 1) + 1) 0) (am 3) (9 * (cn q 1) + 2) 0) (am 3) (9 * (cn q 1) + 3) 0) (am 3) (9 * (cn q 1) + 4) 0) (am 3) (9 * (cn q 1) + 5) 0) (am 3) (9 * (cn q 1) + 6) 0) (am 3) (9 * (cn q 1) + 7) 0) (am 3) (9 * (cn q 1) + 8) 0) (am 3) (9 * (cn q 1) + 0) (iO (zz q 2 r 0))) (am 3) (9 * (cn q 1) + 1) (iO (16 * zz q 2 r 1))) (iO (16 * zz q 2 r 2)) am (cn q 1) (cn q 1) 2 h60 (by omega) hB11) ml_RX5_158 mi_yX5_lays hB11.k0 (by decide) (by decide +kernel) rfl (Nat.le_of_ble_eq_true rfl) (Nat.le_of_ble_eq_true rfl) (Nat.le_of_ble_eq_true rfl) (Nat.le_of_ble_eq_true rfl) (Nat.le_of_ble_eq_true rfl) dX5_begins_101 (fun u h => ?_) _ rfl
      subst h
      have hB12 : NA (tI (tI (tI (tI (tI (tI (tI (tI (tI (tI (tI (tI S (am 3) (9 * (cn q 1) + 0) 0) (am 3) (9 * (cn q 1) + 1) 0) (am 3) (9 * (cn q 1) + 2) 0) (am 3) (9 * (cn q 1) + 3) 0) (am 3) (9 * (cn q 1) + 4) 0) (am 3) (9 * (cn q 1) + 5) 0) (am 3) (9 * (cn q 1) + 6) 0) (am 3) (9 * (cn q 1) + 7) 0) (am 3) (9 * (cn q 1) + 8) 0) (am 3) (9 * (cn q 1) + 0) (iO (zz q 2 r 0))) (am 3) (9 * (cn q 1) + 1) (iO (16 * zz q 2 r 1))) (am 3) (9 * (cn q 1) + 2) (iO (16 * zz q 2 r 2))) am (cn q 1) := hB11.tI
      have hw12 : hI (tI (tI (tI (tI (tI (tI (tI (tI (tI (tI (tI (tI S (am 3) (9 * (cn q 1) + 0) 0) (am 3) (9 * (cn q 1) + 1) 0) (am 3) (9 * (cn q 1) + 2) 0) (am 3) (9 * (cn q 1) + 3) 0) (am 3) (9 * (cn q 1) + 4) 0) (am 3) (9 * (cn q 1) + 5) 0) (am 3) (9 * (cn q 1) + 6) 0) (am 3) (9 * (cn q 1) + 7) 0) (am 3) (9 * (cn q 1) + 8) 0) (am 3) (9 * (cn q 1) + 0) (iO (zz q 2 r 0))) (am 3) (9 * (cn q 1) + 1) (iO (16 * zz q 2 r 1))) (am 3) (9 * (cn q 1) + 2) (iO (16 * zz q 2 r 2))) 44 (am 0) = nI (cn q 1) := by rw [hI_tI]; exact hw11
      refine v_aload_n C 1 rfl rfl dX5_begins_104 ?_
      refine v_aload_n C 1 rfl rfl dX5_begins_105 ?_
      refine v_getI C (nI (cn q 1)) fl_RX5_71 hB12.k0 hw12 dX5_begins_106 ?_
      refine v_iconst C 5 (by decide) dX5_begins_109 ?_
      refine v_iconst C 1 (by decide) dX5_begins_110 ?_
      refine v_callVv C (st := []) [.int (nI (cn q 1)), .int 5, .int 1] (c_X5_lays l (tI (tI (tI (tI (tI (tI (tI (tI (tI (tI (tI (tI S (am 3) (9 * (cn q 1) + 0) 0) (am 3) (9 * (cn q 1) + 1) 0) (am 3) (9 * (cn q 1) + 2) 0) (am 3) (9 * (cn q 1) + 3) 0) (am 3) (9 * (cn q 1) + 4) 0) (am 3) (9 * (cn q 1) + 5) 0) (am 3) (9 * (cn q 1) + 6) 0) (am 3) (9 * (cn q 1) + 7) 0) (am 3) (9 * (cn q 1) + 8) 0) (am 3) (9 * (cn q 1) + 0) (iO (zz q 2 r 0))) (am 3) (9 * (cn q 1) + 1) (iO (16 * zz q 2 r 1))) (am 3) (9 * (cn q 1) + 2) (iO (16 * zz q 2 r 2))) 1 am (cn q 1) (cn q 1) 5 h60 (by omega) hB12) ml_RX5_158 mi_yX5_lays hB12.k0 (by decide) (by decide +kernel) rfl (Nat.le_of_ble_eq_true rfl) (Nat.le_of_ble_eq_true rfl) (Nat.le_of_ble_eq_true rfl) (Nat.le_of_ble_eq_true rfl) (Nat.le_of_ble_eq_true rfl) dX5_begins_111 (fun u h => ?_) _ rfl
      subst h
      have hB13 : NA (tI (tI (tI (tI (tI (tI (tI (tI (tI (tI (tI (tI (tI S (am 3) (9 * (cn q 1) + 0) 0) (am 3) (9 * (cn q 1) + 1) 0) (am 3) (9 * (cn q 1) + 2) 0) (am 3) (9 * (cn q 1) + 3) 0) (am 3) (9 * (cn q 1) + 4) 0) (am 3) (9 * (cn q 1) + 5) 0) (am 3) (9 * (cn q 1) + 6) 0) (am 3) (9 * (cn q 1) + 7) 0) (am 3) (9 * (cn q 1) + 8) 0) (am 3) (9 * (cn q 1) + 0) (iO (zz q 2 r 0))) (am 3) (9 * (cn q 1) + 1) (iO (16 * zz q 2 r 1))) (am 3) (9 * (cn q 1) + 2) (iO (16 * zz q 2 r 2))) (am 3) (9 * (cn q 1) + 5) 1) am (cn q 1) := hB12.tI
      have hw13 : hI (tI (tI (tI (tI (tI (tI (tI (tI (tI (tI (tI (tI (tI S (am 3) (9 * (cn q 1) + 0) 0) (am 3) (9 * (cn q 1) + 1) 0) (am 3) (9 * (cn q 1) + 2) 0) (am 3) (9 * (cn q 1) + 3) 0) (am 3) (9 * (cn q 1) + 4) 0) (am 3) (9 * (cn q 1) + 5) 0) (am 3) (9 * (cn q 1) + 6) 0) (am 3) (9 * (cn q 1) + 7) 0) (am 3) (9 * (cn q 1) + 8) 0) (am 3) (9 * (cn q 1) + 0) (iO (zz q 2 r 0))) (am 3) (9 * (cn q 1) + 1) (iO (16 * zz q 2 r 1))) (am 3) (9 * (cn q 1) + 2) (iO (16 * zz q 2 r 2))) (am 3) (9 * (cn q 1) + 5) 1) 44 (am 0) = nI (cn q 1) := by rw [hI_tI]; exact hw12
      have hAU : NA (tI (tI (tI (tI (tI (tI (tI (tI (tI (tI (tI (tI (tI S (am 3) (9 * (cn q 1) + 0) 0) (am 3) (9 * (cn q 1) + 1) 0) (am 3) (9 * (cn q 1) + 2) 0) (am 3) (9 * (cn q 1) + 3) 0) (am 3) (9 * (cn q 1) + 4) 0) (am 3) (9 * (cn q 1) + 5) 0) (am 3) (9 * (cn q 1) + 6) 0) (am 3) (9 * (cn q 1) + 7) 0) (am 3) (9 * (cn q 1) + 8) 0) (am 3) (9 * (cn q 1) + 0) (iO (zz q 2 r 0))) (am 3) (9 * (cn q 1) + 1) (iO (16 * zz q 2 r 1))) (am 3) (9 * (cn q 1) + 2) (iO (16 * zz q 2 r 2))) (am 3) (9 * (cn q 1) + 5) 1) am (cn q 1) := hB13
      have fI9 : ∀ f, hI (tI (tI (tI (tI (tI (tI (tI (tI (tI (tI (tI (tI (tI S (am 3) (9 * (cn q 1) + 0) 0) (am 3) (9 * (cn q 1) + 1) 0) (am 3) (9 * (cn q 1) + 2) 0) (am 3) (9 * (cn q 1) + 3) 0) (am 3) (9 * (cn q 1) + 4) 0) (am 3) (9 * (cn q 1) + 5) 0) (am 3) (9 * (cn q 1) + 6) 0) (am 3) (9 * (cn q 1) + 7) 0) (am 3) (9 * (cn q 1) + 8) 0) (am 3) (9 * (cn q 1) + 0) (iO (zz q 2 r 0))) (am 3) (9 * (cn q 1) + 1) (iO (16 * zz q 2 r 1))) (am 3) (9 * (cn q 1) + 2) (iO (16 * zz q 2 r 2))) (am 3) (9 * (cn q 1) + 5) 1) f (am 0) = hI S f (am 0) := fun f => by rw [hI_tI, hI_tI, hI_tI, hI_tI, hI_tI, hI_tI, hI_tI, hI_tI, hI_tI, hI_tI, hI_tI, hI_tI, hI_tI]
      have fN9 : ∀ a, hN (tI (tI (tI (tI (tI (tI (tI (tI (tI (tI (tI (tI (tI S (am 3) (9 * (cn q 1) + 0) 0) (am 3) (9 * (cn q 1) + 1) 0) (am 3) (9 * (cn q 1) + 2) 0) (am 3) (9 * (cn q 1) + 3) 0) (am 3) (9 * (cn q 1) + 4) 0) (am 3) (9 * (cn q 1) + 5) 0) (am 3) (9 * (cn q 1) + 6) 0) (am 3) (9 * (cn q 1) + 7) 0) (am 3) (9 * (cn q 1) + 8) 0) (am 3) (9 * (cn q 1) + 0) (iO (zz q 2 r 0))) (am 3) (9 * (cn q 1) + 1) (iO (16 * zz q 2 r 1))) (am 3) (9 * (cn q 1) + 2) (iO (16 * zz q 2 r 2))) (am 3) (9 * (cn q 1) + 5) 1) a = hN S a := fun a => by rw [hN_tI, hN_tI, hN_tI, hN_tI, hN_tI, hN_tI, hN_tI, hN_tI, hN_tI, hN_tI, hN_tI, hN_tI, hN_tI]
      obtain ⟨w1, w2, w3⟩ := rows13 S (am 3) (cn q 1) (iO (zz q 2 r 0)) (iO (16 * zz q 2 r 1)) (iO (16 * zz q 2 r 2))
      refine V.sub [1, 2] rfl (sg_X5_begins (tI (tI (tI (tI (tI (tI (tI (tI (tI (tI (tI (tI (tI S (am 3) (9 * (cn q 1) + 0) 0) (am 3) (9 * (cn q 1) + 1) 0) (am 3) (9 * (cn q 1) + 2) 0) (am 3) (9 * (cn q 1) + 3) 0) (am 3) (9 * (cn q 1) + 4) 0) (am 3) (9 * (cn q 1) + 5) 0) (am 3) (9 * (cn q 1) + 6) 0) (am 3) (9 * (cn q 1) + 7) 0) (am 3) (9 * (cn q 1) + 8) 0) (am 3) (9 * (cn q 1) + 0) (iO (zz q 2 r 0))) (am 3) (9 * (cn q 1) + 1) (iO (16 * zz q 2 r 1))) (am 3) (9 * (cn q 1) + 2) (iO (16 * zz q 2 r 2))) (am 3) (9 * (cn q 1) + 5) 1) am q r S h60 hAU hV hSG fI9 fN9 w1 (fun k hk => (w2 k hk).trans (bgn_O q r k hk)) w3 C (fun u am2 e2 gA gV gF => ?_))
      exact v_vret C hRT (Nat.le_of_ble_eq_true rfl) (Nat.le_of_ble_eq_true rfl) dX5_begins_159 (by rw [bgn_new hneg]; exact ⟨rfl, am2, e2, gA, gV, gF⟩)
    · refine v_aload_n C 0 rfl rfl dX5_begins_18 ?_
      refine v_dup C rfl dX5_begins_19 ?_
      refine v_getI C (nI (cn q 3)) fl_RX5_170 hA.k0 hV.v56 dX5_begins_20 ?_
      refine v_iconst C 1 (by decide) dX5_begins_23 ?_
      refine v_iadd C dX5_begins_24 ?_
      refine v_putI C fl_RX5_170 hA.k0 rfl rfl dX5_begins_25 ?_
      exact v_vret C hRT (Nat.le_of_ble_eq_true rfl) (Nat.le_of_ble_eq_true rfl) dX5_begins_28 (by have e9 : bgnA q r = cs q 3 (cn q 3 + 1) := bgn_drop (Or.inr (by have := nI_inj (b := 60) c15 (by have := hA.hn; omega) (by decide); omega)); rw [e9]; exact ⟨rfl, am, fun _ _ => rfl, hA.I, NV.drop hA hV, ⟨hI_sI2 (fun z => absurd z.1 (by decide)), aI_sI _ _ _ _ _⟩⟩)
