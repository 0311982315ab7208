theorem FrP.of {S T u : HS} {am : AM} (h : FrP T u am) (h1 : hI T 61 (am 0) = hI S 61 (am 0)) (h2 : aI T (am 10) = aI S (am 10)) : FrP S u am := ⟨h.1.trans h1, h.2.trans h2⟩
set_option maxRecDepth 100000 in
set_option maxHeartbeats 4000000 in
theorem c_X5_changes (l : Launch) (S : HS) (am : AM) (q : AS) (hB : BI q) (hA : NA S am (cn q 1)) (hV : NV S am q) (hSG : SGB q) (r : Nat) (hr : r < cn q 0) (t : Nat) (ht : t < cn q 1) (hc : 0 ≤ ctk q r t) (hc5 : cn q (100 + t) ≤ 330)  : cM l yX5_changes cX5_changes 11 (Option.none : Option Jvm.ClassFile.FieldType) 8 [.ref (am 0), .int (nI t), .int (nI r)] S (pV fun u => ∃ am2 : AM, (∀ i, i < 20 → am2 i = am i) ∧ NA u am2 (cn q 1) ∧ NV u am2 (flwA q r t) ∧ FrP S u am) 1 660 := by
  refine cM_intro (by decide +kernel) cd_X5_changes (Nat.le_of_ble_eq_true rfl) ?_
  intro pP eE sS mM aA bB tT cC G A C hRT hin
  refine V.lvs (lv2 := [(0, .ref (am 0)), (1, .int (nI t)), (2, .int (nI r))]) rfl ?_
  have h04 := hB.b0
  refine v_aload_n C 0 rfl rfl dX5_changes_0 ?_
  refine v_getR C (am 6) fl_RX5_28 hA.k0 hA.r47 dX5_changes_1 ?_
  refine v_iload_n C 2 rfl rfl dX5_changes_4 ?_
  refine v_iald C (iO (zz q 2 r 0)) hA.k6 (by rw [hA.n6]; exact vp_in_nI (by omega) (by decide)) ((congrArg _ (nI_clamp (by omega))).trans (hV.t6 r (by omega))) dX5_changes_5 ?_
  refine v_aload_n C 0 rfl rfl dX5_changes_6 ?_
  refine v_iload_n C 1 rfl rfl dX5_changes_7 ?_
  refine v_iconst C 0 (by decide) dX5_changes_8 ?_
  refine v_callVi C (st := [.int (iO (zz q 2 r 0))]) [.int (nI t), .int 0] (c_X5_of l S am (cn q 1) t 0 (by have := (hA).hn; omega) (by omega) hA) ml_RX5_74 mi_yX5_of hA.k0 (by decide) (by decide +kernel) rfl (Nat.le_of_ble_eq_true rfl) (Nat.le_of_ble_eq_true rfl) (Nat.le_of_ble_eq_true rfl) (Nat.le_of_ble_eq_true rfl) (Nat.le_of_ble_eq_true rfl) dX5_changes_9 (fun r u h => ?_) _ rfl
  obtain ⟨rfl, rfl⟩ := h
  rw [(hV).m t ht 0 (by omega)]
  refine v_isub C dX5_changes_12 ?_
  rw [show ((iO (zz q 2 r 0)) - (iO (zz q 3 t 0))) = (iO (zz q 2 r 0 - zz q 3 t 0)) from iO_sub _ _]
  refine v_istore_n C [(3, .int (iO (zz q 2 r 0 - zz q 3 t 0))), (0, .ref (am 0)), (1, .int (nI t)), (2, .int (nI r))] (by decide) rfl rfl dX5_changes_13 ?_
  refine v_iconst C 0 (by decide) dX5_changes_14 ?_
  obtain ⟨hcl, hr0, hr1⟩ := ctk_rsd hB hc
  have hz0 : bd (zz q 2 r 0) (-20000) 40000 := by have := (hB.br r hr).1; unfold bd at *; omega
  have n3_11 : am 11 ≠ am 3 := hA.apt (by decide) (by decide) (by decide)
  have n3_10 : am 10 ≠ am 3 := hA.apt (by decide) (by decide) (by decide)
  have n10_11 : am 10 ≠ am 11 := hA.apt (by decide) (by decide) (by decide)
  refine v_istore C [(4, .int 0), (3, .int (iO (zz q 2 r 0 - zz q 3 t 0))), (0, .ref (am 0)), (1, .int (nI t)), (2, .int (nI r))] (by decide) rfl dX5_changes_15 ?_
  refine v_iload C 0 rfl dX5_changes_17 ?_
  refine v_iconst C 2 (by decide) dX5_changes_19 ?_
  refine v_icmp_ge C 141 (by decide) dX5_changes_20 (fun q => absurd q (by decide)) (fun _ => ?_)
  refine v_aload_n C 2 rfl rfl dX5_changes_23 ?_
  refine v_iload_n C 4 rfl rfl dX5_changes_24 ?_
  refine v_iload_n C 3 rfl rfl dX5_changes_25 ?_
  refine v_iload C 0 rfl dX5_changes_26 ?_
  refine v_callVl C (st := []) [.int (nI r), .int (nI t), .int 0] (c_X5_residual l S am q hB hA hV r hr t ht 0 (by omega)) ml_RX5_118 mi_yX5_residual hA.k0 (by decide) (by decide +kernel) rfl (Nat.le_of_ble_eq_true rfl) (Nat.le_of_ble_eq_true rfl) (Nat.le_of_ble_eq_true rfl) (Nat.le_of_ble_eq_true rfl) (Nat.le_of_ble_eq_true rfl) dX5_changes_28 (fun r u h => ?_) _ rfl
  obtain ⟨rfl, rfl⟩ := h
  refine v_lstore C [(5, .long (lO (rsd q r t 0))), (4, .int 0), (3, .int (iO (zz q 2 r 0 - zz q 3 t 0))), (0, .ref (am 0)), (1, .int (nI t)), (2, .int (nI r))] (by decide) rfl dX5_changes_31 ?_
  refine v_aload_n C 3 rfl rfl dX5_changes_33 ?_
  refine v_iload_n C 4 rfl rfl dX5_changes_34 ?_
  refine v_aload_n C 3 rfl rfl dX5_changes_35 ?_
  refine v_getR C (am 6) fl_RX5_28 hA.k0 hA.r47 dX5_changes_36 ?_
  refine v_iload_n C 5 rfl rfl dX5_changes_39 ?_
  refine v_iald C (iO (zz q 2 r 0)) hA.k6 (by rw [hA.n6]; exact vp_in_nI (by omega) (by decide)) ((congrArg _ (nI_clamp (by omega))).trans (hV.t6 r (by omega))) dX5_changes_40 ?_
  refine v_iload C 1 rfl dX5_changes_41 ?_
  refine v_callVl C (st := []) [.int (nI t), .int (iO (zz q 2 r 0)), .int 0] (c_X5_ahead l S am q hB hA hV t ht 0 (by omega) (zz q 2 r 0) hz0) ml_RX5_114 mi_yX5_ahead hA.k0 (by decide) (by decide +kernel) rfl (Nat.le_of_ble_eq_true rfl) (Nat.le_of_ble_eq_true rfl) (Nat.le_of_ble_eq_true rfl) (Nat.le_of_ble_eq_true rfl) (Nat.le_of_ble_eq_true rfl) dX5_changes_43 (fun r u h => ?_) _ rfl
  obtain ⟨rfl, rfl⟩ := h
  refine v_lload C 0 rfl dX5_changes_46 ?_
  refine v_aload_n C 3 rfl rfl dX5_changes_48 ?_
  refine v_getI C (iO (zz q 0 0 1)) fl_RX5_41 hA.k0 hV.v52 dX5_changes_49 ?_
  refine v_i2l C dX5_changes_52 ?_
  refine v_lmul C dX5_changes_53 ?_
  refine v_ldc2 C kl_RX5_97 dX5_changes_54 ?_
  refine v_ldiv C (by decide) dX5_changes_57 ?_
  refine v_ladd C dX5_changes_58 ?_
  rw [show ((lO (ahd q t (zz q 2 r 0) 0)) + (((lO (rsd q r t 0)) * ((iO (zz q 0 0 1)).toInt64)) / 16)) = lO (posA q r t 0) from pos_L hB hr0]
  refine v_lstore C [(7, .long (lO (posA q r t 0))), (5, .long (lO (rsd q r t 0))), (4, .int 0), (3, .int (iO (zz q 2 r 0 - zz q 3 t 0))), (0, .ref (am 0)), (1, .int (nI t)), (2, .int (nI r))] (by decide) rfl dX5_changes_59 ?_
  refine v_aload_n C 4 rfl rfl dX5_changes_61 ?_
  refine v_iload_n C 5 rfl rfl dX5_changes_62 ?_
  refine v_iconst C 3 (by decide) dX5_changes_63 ?_
  refine v_iload C 2 rfl dX5_changes_64 ?_
  refine v_iadd C dX5_changes_66 ?_
  rw [show (3 : Int32) + 0 = 3 from by decide]
  refine v_callVi C (st := []) [.int (nI t), .int 3] (c_X5_of l S am (cn q 1) t 3 (by have := (hA).hn; omega) (by omega) hA) ml_RX5_74 mi_yX5_of hA.k0 (by decide) (by decide +kernel) rfl (Nat.le_of_ble_eq_true rfl) (Nat.le_of_ble_eq_true rfl) (Nat.le_of_ble_eq_true rfl) (Nat.le_of_ble_eq_true rfl) (Nat.le_of_ble_eq_true rfl) dX5_changes_67 (fun r u h => ?_) _ rfl
  obtain ⟨rfl, rfl⟩ := h
  rw [(hV).m t ht 3 (by omega)]
  refine v_i2l C dX5_changes_70 ?_
  refine v_lstore C [(9, .long ((iO (zz q 3 t 3)).toInt64)), (7, .long (lO (posA q r t 0))), (5, .long (lO (rsd q r t 0))), (4, .int 0), (3, .int (iO (zz q 2 r 0 - zz q 3 t 0))), (0, .ref (am 0)), (1, .int (nI t)), (2, .int (nI r))] (by decide) rfl dX5_changes_71 ?_
  refine v_iload_n C 4 rfl rfl dX5_changes_73 ?_
  refine v_if_le C 113 (by decide) dX5_changes_74 (fun c74 => ?_) (fun c74 => ?_)
  · refine V.lvs (lv2 := [(9, .long (lO (velA q r t 0))), (7, .long (lO (posA q r t 0))), (5, .long (lO (rsd q r t 0))), (4, .int 0), (3, .int (iO (zz q 2 r 0 - zz q 3 t 0))), (0, .ref (am 0)), (1, .int (nI t)), (2, .int (nI r))]) (by rw [← vel_0 (ax := 0) hB hr ht (by decide) ((ps_pos hB hr ht).mp c74)]) ?_
    refine v_aload_n C 5 rfl rfl dX5_changes_113 ?_
    refine v_iload_n C 6 rfl rfl dX5_changes_114 ?_
    refine v_iconst C 1 (by decide) dX5_changes_115 ?_
    refine v_iload C 3 rfl dX5_changes_116 ?_
    refine v_iadd C dX5_changes_118 ?_
    rw [show (1 : Int32) + 0 = 1 from by decide]
    refine v_lload C 1 rfl dX5_changes_119 ?_
    refine v_l2i C dX5_changes_121 ?_
    rw [lO_i]
    refine v_callVv C (st := []) [.int (nI t), .int 1, .int (iO (posA q r t 0))] (c_X5_lays l S (iO (posA q r t 0)) am (cn q 1) t 1 (by have := (hA).hn; omega) (by omega) hA) ml_RX5_158 mi_yX5_lays hA.k0 (by decide) (by decide +kernel) rfl (Nat.le_of_ble_eq_true rfl) (Nat.le_of_ble_eq_true rfl) (Nat.le_of_ble_eq_true rfl) (Nat.le_of_ble_eq_true rfl) (Nat.le_of_ble_eq_true rfl) dX5_changes_122 (fun u h => ?_) _ rfl
    subst h
    refine v_aload_n C 5 rfl rfl dX5_changes_125 ?_
    refine v_getR C (am 11) fl_RX5_59 hA.k0 hA.r62 dX5_changes_126 ?_
    refine v_iload C 3 rfl dX5_changes_129 ?_
    refine v_lload C 0 rfl dX5_changes_131 ?_
    refine v_l2i C dX5_changes_133 ?_
    rw [lO_i]
    refine v_iastj C 0 rfl hA.k11 (vpi hA.n11 (show vp_in (nI 0) 2 from vp_in_nI (by decide) (by decide))) dX5_changes_134 ?_
    have hVa := NV.lay (t := t) (k := 1) hA hV (by decide) (rfl : iO (posA q r t 0) = iO (posA q r t 0))
    have hA1 : NA (tI (tI S (am 3) (9 * t + 1) (iO (posA q r t 0))) (am 11) 0 (iO (velA q r t 0))) am (cn q 1) := hA.tI.tI
    have hV1 : NV (tI (tI S (am 3) (9 * t + 1) (iO (posA q r t 0))) (am 11) 0 (iO (velA q r t 0))) am (zs q 3 t 1 (posA q r t 0)) := (FrN.A (Or.inr (Or.inr rfl))).toV (q := (zs q 3 t 1 (posA q r t 0))) hA.tI hVa
    have hB1 : BI (zs q 3 t 1 (posA q r t 0)) := pos_BI hB ht (posA_bd hB hr (by decide) hr0)
    refine v_iinc C 1 3 [(4, .int 1), (9, .long (lO (velA q r t 0))), (7, .long (lO (posA q r t 0))), (5, .long (lO (rsd q r t 0))), (3, .int (iO (zz q 2 r 0 - zz q 3 t 0))), (0, .ref (am 0)), (1, .int (nI t)), (2, .int (nI r))] rfl (by decide) (by decide) rfl dX5_changes_135 ?_
    refine v_goto C 17 (by decide) dX5_changes_138 ?_
    refine v_iload C 0 rfl dX5_changes_17 ?_
    refine v_iconst C 2 (by decide) dX5_changes_19 ?_
    refine v_icmp_ge C 141 (by decide) dX5_changes_20 (fun q => absurd q (by decide)) (fun _ => ?_)
    refine v_aload_n C 5 rfl rfl dX5_changes_23 ?_
    refine v_iload_n C 7 rfl rfl dX5_changes_24 ?_
    refine v_iload_n C 6 rfl rfl dX5_changes_25 ?_
    refine v_iload C 0 rfl dX5_changes_26 ?_
    refine v_callVl C (st := []) [.int (nI r), .int (nI t), .int 1] (c_X5_residual l (tI (tI S (am 3) (9 * t + 1) (iO (posA q r t 0))) (am 11) 0 (iO (velA q r t 0))) am (zs q 3 t 1 (posA q r t 0)) hB1 hA1 hV1 r hr t ht 1 (by omega)) ml_RX5_118 mi_yX5_residual hA.k0 (by decide) (by decide +kernel) rfl (Nat.le_of_ble_eq_true rfl) (Nat.le_of_ble_eq_true rfl) (Nat.le_of_ble_eq_true rfl) (Nat.le_of_ble_eq_true rfl) (Nat.le_of_ble_eq_true rfl) dX5_changes_28 (fun r u h => ?_) _ rfl
    obtain ⟨rfl, rfl⟩ := h
    rw [rsd_z1]
    refine v_lstore C [(5, .long (lO (rsd q r t 1))), (4, .int 1), (9, .long (lO (velA q r t 0))), (7, .long (lO (posA q r t 0))), (3, .int (iO (zz q 2 r 0 - zz q 3 t 0))), (0, .ref (am 0)), (1, .int (nI t)), (2, .int (nI r))] (by decide) rfl dX5_changes_31 ?_
    refine v_aload_n C 5 rfl rfl dX5_changes_33 ?_
    refine v_iload_n C 6 rfl rfl dX5_changes_34 ?_
    refine v_aload_n C 5 rfl rfl dX5_changes_35 ?_
    refine v_getR C (am 6) fl_RX5_28 hA.k0 hA.r47 dX5_changes_36 ?_
    refine v_iload_n C 7 rfl rfl dX5_changes_39 ?_
    refine v_iald C (iO (zz q 2 r 0)) hA.k6 (vpi hA.n6 (vp_in_nI (by omega) (by decide))) ((congrArg _ (nI_clamp (by omega))).trans (hV1.t6 r (by omega))) dX5_changes_40 ?_
    refine v_iload C 1 rfl dX5_changes_41 ?_
    refine v_callVl C (st := []) [.int (nI t), .int (iO (zz q 2 r 0)), .int 1] (c_X5_ahead l (tI (tI S (am 3) (9 * t + 1) (iO (posA q r t 0))) (am 11) 0 (iO (velA q r t 0))) am (zs q 3 t 1 (posA q r t 0)) hB1 hA1 hV1 t ht 1 (by omega) (zz q 2 r 0) hz0) ml_RX5_114 mi_yX5_ahead hA.k0 (by decide) (by decide +kernel) rfl (Nat.le_of_ble_eq_true rfl) (Nat.le_of_ble_eq_true rfl) (Nat.le_of_ble_eq_true rfl) (Nat.le_of_ble_eq_true rfl) (Nat.le_of_ble_eq_true rfl) dX5_changes_43 (fun r u h => ?_) _ rfl
    obtain ⟨rfl, rfl⟩ := h
    rw [show ahd (zs q 3 t 1 (posA q r t 0)) t (zz q 2 r 0) 1 = ahd q t (zz q 2 r 0) 1 from ahd_z1]
    refine v_lload C 0 rfl dX5_changes_46 ?_
    refine v_aload_n C 5 rfl rfl dX5_changes_48 ?_
    refine v_getI C (iO (zz q 0 0 1)) fl_RX5_41 hA.k0 hV.v52 dX5_changes_49 ?_
    refine v_i2l C dX5_changes_52 ?_
    refine v_lmul C dX5_changes_53 ?_
    refine v_ldc2 C kl_RX5_97 dX5_changes_54 ?_
    refine v_ldiv C (by decide) dX5_changes_57 ?_
    refine v_ladd C dX5_changes_58 ?_
    rw [show ((lO (ahd q t (zz q 2 r 0) 1)) + (((lO (rsd q r t 1)) * ((iO (zz q 0 0 1)).toInt64)) / 16)) = lO (posA q r t 1) from pos_L hB hr1]
    refine v_lstore C [(7, .long (lO (posA q r t 1))), (5, .long (lO (rsd q r t 1))), (4, .int 1), (9, .long (lO (velA q r t 0))), (3, .int (iO (zz q 2 r 0 - zz q 3 t 0))), (0, .ref (am 0)), (1, .int (nI t)), (2, .int (nI r))] (by decide) rfl dX5_changes_59 ?_
    refine v_aload_n C 5 rfl rfl dX5_changes_61 ?_
    refine v_iload_n C 6 rfl rfl dX5_changes_62 ?_
    refine v_iconst C 3 (by decide) dX5_changes_63 ?_
    refine v_iload C 2 rfl dX5_changes_64 ?_
    refine v_iadd C dX5_changes_66 ?_
    rw [show (3 : Int32) + 1 = 4 from by decide]
    refine v_callVi C (st := []) [.int (nI t), .int 4] (c_X5_of l (tI (tI S (am 3) (9 * t + 1) (iO (posA q r t 0))) (am 11) 0 (iO (velA q r t 0))) am (cn q 1) t 4 (by have := (hA1).hn; omega) (by omega) hA1) ml_RX5_74 mi_yX5_of hA.k0 (by decide) (by decide +kernel) rfl (Nat.le_of_ble_eq_true rfl) (Nat.le_of_ble_eq_true rfl) (Nat.le_of_ble_eq_true rfl) (Nat.le_of_ble_eq_true rfl) (Nat.le_of_ble_eq_true rfl) dX5_changes_67 (fun r u h => ?_) _ rfl
    obtain ⟨rfl, rfl⟩ := h
    rw [(hV1).m t ht 4 (by omega)]
    rw [show zz (zs q 3 t 1 (posA q r t 0)) 3 t 4 = zz q 3 t 4 from by rw [zz_zs, if_neg (by omega)]]
    refine v_i2l C dX5_changes_70 ?_
    refine v_lstore C [(9, .long ((iO (zz q 3 t 4)).toInt64)), (7, .long (lO (posA q r t 1))), (5, .long (lO (rsd q r t 1))), (4, .int 1), (3, .int (iO (zz q 2 r 0 - zz q 3 t 0))), (0, .ref (am 0)), (1, .int (nI t)), (2, .int (nI r))] (by decide) rfl dX5_changes_71 ?_
    refine v_iload_n C 4 rfl rfl dX5_changes_73 ?_
    refine v_if_le C 113 (by decide) dX5_changes_74 (fun c74 => ?_) (fun q => (q c74).elim)
    refine V.lvs (lv2 := [(9, .long (lO (velA q r t 1))), (7, .long (lO (posA q r t 1))), (5, .long (lO (rsd q r t 1))), (4, .int 1), (3, .int (iO (zz q 2 r 0 - zz q 3 t 0))), (0, .ref (am 0)), (1, .int (nI t)), (2, .int (nI r))]) (by rw [← vel_0 (ax := 1) hB hr ht (by decide) ((ps_pos hB hr ht).mp c74)]) ?_
    refine v_aload_n C 5 rfl rfl dX5_changes_113 ?_
    refine v_iload_n C 6 rfl rfl dX5_changes_114 ?_
    refine v_iconst C 1 (by decide) dX5_changes_115 ?_
    refine v_iload C 3 rfl dX5_changes_116 ?_
    refine v_iadd C dX5_changes_118 ?_
    rw [show (1 : Int32) + 1 = 2 from by decide]
    refine v_lload C 1 rfl dX5_changes_119 ?_
    refine v_l2i C dX5_changes_121 ?_
    rw [lO_i]
    refine v_callVv C (st := []) [.int (nI t), .int 2, .int (iO (posA q r t 1))] (c_X5_lays l (tI (tI S (am 3) (9 * t + 1) (iO (posA q r t 0))) (am 11) 0 (iO (velA q r t 0))) (iO (posA q r t 1)) am (cn q 1) t 2 (by have := (hA1).hn; omega) (by omega) hA1) ml_RX5_158 mi_yX5_lays hA.k0 (by decide) (by decide +kernel) rfl (Nat.le_of_ble_eq_true rfl) (Nat.le_of_ble_eq_true rfl) (Nat.le_of_ble_eq_true rfl) (Nat.le_of_ble_eq_true rfl) (Nat.le_of_ble_eq_true rfl) dX5_changes_122 (fun u h => ?_) _ rfl
    subst h
    refine v_aload_n C 5 rfl rfl dX5_changes_125 ?_
    refine v_getR C (am 11) fl_RX5_59 hA.k0 hA.r62 dX5_changes_126 ?_
    refine v_iload C 3 rfl dX5_changes_129 ?_
    refine v_lload C 0 rfl dX5_changes_131 ?_
    refine v_l2i C dX5_changes_133 ?_
    rw [lO_i]
    refine v_iastj C 1 rfl hA.k11 (vpi hA.n11 (show vp_in (nI 1) 2 from vp_in_nI (by decide) (by decide))) dX5_changes_134 ?_
    refine v_iinc C 2 3 [(4, .int 2), (9, .long (lO (velA q r t 1))), (7, .long (lO (posA q r t 1))), (5, .long (lO (rsd q r t 1))), (3, .int (iO (zz q 2 r 0 - zz q 3 t 0))), (0, .ref (am 0)), (1, .int (nI t)), (2, .int (nI r))] rfl (by decide) (by decide) rfl dX5_changes_135 ?_
    refine v_goto C 17 (by decide) dX5_changes_138 ?_
    refine v_iload C 0 rfl dX5_changes_17 ?_
    refine v_iconst C 2 (by decide) dX5_changes_19 ?_
    refine v_icmp_ge C 141 (by decide) dX5_changes_20 (fun _ => ?_) (fun q => absurd (by decide) q)
    have hVb := NV.lay (q := (zs q 3 t 1 (posA q r t 0))) (t := t) (k := 2) hA1 hV1 (by decide) (rfl : iO (posA q r t 1) = iO (posA q r t 1))
    have hA2 : NA (tI (tI (tI (tI S (am 3) (9 * t + 1) (iO (posA q r t 0))) (am 11) 0 (iO (velA q r t 0))) (am 3) (9 * t + 2) (iO (posA q r t 1))) (am 11) 1 (iO (velA q r t 1))) am (cn q 1) := hA1.tI.tI
    have hV2 : NV (tI (tI (tI (tI S (am 3) (9 * t + 1) (iO (posA q r t 0))) (am 11) 0 (iO (velA q r t 0))) (am 3) (9 * t + 2) (iO (posA q r t 1))) (am 11) 1 (iO (velA q r t 1))) am (zs (zs q 3 t 1 (posA q r t 0)) 3 t 2 (posA q r t 1)) := (FrN.A (Or.inr (Or.inr rfl))).toV (q := (zs (zs q 3 t 1 (posA q r t 0)) 3 t 2 (posA q r t 1))) hA1.tI hVb
    have hm1 : aI (tI (tI (tI (tI S (am 3) (9 * t + 1) (iO (posA q r t 0))) (am 11) 0 (iO (velA q r t 0))) (am 3) (9 * t + 2) (iO (posA q r t 1))) (am 11) 1 (iO (velA q r t 1))) (am 11) 1 = iO (velA q r t 1) := by rw [aI_tI1, if_pos rfl]
    have hm0 : aI (tI (tI (tI (tI S (am 3) (9 * t + 1) (iO (posA q r t 0))) (am 11) 0 (iO (velA q r t 0))) (am 3) (9 * t + 2) (iO (posA q r t 1))) (am 11) 1 (iO (velA q r t 1))) (am 11) 0 = iO (velA q r t 0) := by rw [aI_tI1, if_neg (by decide), aI_tI2 n3_11, aI_tI1, if_pos rfl]
    have hq0 : hI (tI (tI (tI (tI S (am 3) (9 * t + 1) (iO (posA q r t 0))) (am 11) 0 (iO (velA q r t 0))) (am 3) (9 * t + 2) (iO (posA q r t 1))) (am 11) 1 (iO (velA q r t 1))) 61 (am 0) = hI S 61 (am 0) := by rw [hI_tI, hI_tI, hI_tI, hI_tI]
    have hq1 : aI (tI (tI (tI (tI S (am 3) (9 * t + 1) (iO (posA q r t 0))) (am 11) 0 (iO (velA q r t 0))) (am 3) (9 * t + 2) (iO (posA q r t 1))) (am 11) 1 (iO (velA q r t 1))) (am 10) = aI S (am 10) := by rw [aI_tI2 n10_11, aI_tI2 n3_10, aI_tI2 n10_11, aI_tI2 n3_10]
    refine V.sub [5, 6, 7] rfl (sg_X5_changes (tI (tI (tI (tI S (am 3) (9 * t + 1) (iO (posA q r t 0))) (am 11) 0 (iO (velA q r t 0))) (am 3) (9 * t + 2) (iO (posA q r t 1))) (am 11) 1 (iO (velA q r t 1))) am q r t hr h04 hB hA2 hV2 hSG ht hc5 hm0 hm1 C (fun u am2 e2 gA gV gF => ?_))
    have gF9 : FrP S u am := gF.of hq0 hq1
    exact v_vret C hRT (Nat.le_of_ble_eq_true rfl) (Nat.le_of_ble_eq_true rfl) dX5_changes_206 ⟨rfl, am2, e2, gA, gV, gF9⟩
  · have hp : 0 < (zz q 2 r 0 - zz q 3 t 0) := Classical.not_not.mp (fun z => c74 ((ps_pos hB hr ht).mpr z))
    refine v_lload C 0 rfl dX5_changes_77 ?_
    refine v_lload C 2 rfl dX5_changes_79 ?_
    refine v_aload_n C 5 rfl rfl dX5_changes_81 ?_
    refine v_getI C (iO (zz q 0 0 2)) fl_RX5_44 hA.k0 hV.v53 dX5_changes_82 ?_
    refine v_i2l C dX5_changes_85 ?_
    refine v_lmul C dX5_changes_86 ?_
    refine v_ldc2 C kl_RX5_97 dX5_changes_87 ?_
    refine v_iload_n C 4 rfl rfl dX5_changes_90 ?_
    refine v_i2l C dX5_changes_91 ?_
    refine v_lmul C dX5_changes_92 ?_
    refine v_ldiv C (ps_ne hB hr ht hp) dX5_changes_93 ?_
    refine v_ladd C dX5_changes_94 ?_
    refine v_lstore C [(9, .long (((iO (zz q 3 t 3)).toInt64) + (((lO (rsd q r t 0)) * ((iO (zz q 0 0 2)).toInt64)) / (16 * ((iO (zz q 2 r 0 - zz q 3 t 0)).toInt64))))), (7, .long (lO (posA q r t 0))), (5, .long (lO (rsd q r t 0))), (4, .int 0), (3, .int (iO (zz q 2 r 0 - zz q 3 t 0))), (0, .ref (am 0)), (1, .int (nI t)), (2, .int (nI r))] (by decide) rfl dX5_changes_95 ?_
    refine v_ldc2 C kl_RX5_147 dX5_changes_97 ?_
    refine v_ldc2 C kl_RX5_149 dX5_changes_100 ?_
    refine v_lload C 0 rfl dX5_changes_103 ?_
    refine v_minL C jl_RX5_151 (Nat.le_of_ble_eq_true rfl) (Nat.le_of_ble_eq_true rfl) (Nat.le_of_ble_eq_true rfl) (Nat.le_of_ble_eq_true rfl) (Nat.le_of_ble_eq_true rfl) dX5_changes_105 ?_
    refine v_maxL C jl_RX5_155 (Nat.le_of_ble_eq_true rfl) (Nat.le_of_ble_eq_true rfl) (Nat.le_of_ble_eq_true rfl) (Nat.le_of_ble_eq_true rfl) (Nat.le_of_ble_eq_true rfl) dX5_changes_108 ?_
    rw [show (if (if (((iO (zz q 3 t 3)).toInt64) + (((lO (rsd q r t 0)) * ((iO (zz q 0 0 2)).toInt64)) / (16 * ((iO (zz q 2 r 0 - zz q 3 t 0)).toInt64)))) < 1600 then (((iO (zz q 3 t 3)).toInt64) + (((lO (rsd q r t 0)) * ((iO (zz q 0 0 2)).toInt64)) / (16 * ((iO (zz q 2 r 0 - zz q 3 t 0)).toInt64)))) else 1600) < (-1600) then (-1600) else (if (((iO (zz q 3 t 3)).toInt64) + (((lO (rsd q r t 0)) * ((iO (zz q 0 0 2)).toInt64)) / (16 * ((iO (zz q 2 r 0 - zz q 3 t 0)).toInt64)))) < 1600 then (((iO (zz q 3 t 3)).toInt64) + (((lO (rsd q r t 0)) * ((iO (zz q 0 0 2)).toInt64)) / (16 * ((iO (zz q 2 r 0 - zz q 3 t 0)).toInt64)))) else 1600)) = lO (velA q r t 0) from vel_L hB hr ht (by decide) hr0 hp _ rfl]
    refine v_lstore C [(9, .long (lO (velA q r t 0))), (7, .long (lO (posA q r t 0))), (5, .long (lO (rsd q r t 0))), (4, .int 0), (3, .int (iO (zz q 2 r 0 - zz q 3 t 0))), (0, .ref (am 0)), (1, .int (nI t)), (2, .int (nI r))] (by decide) rfl dX5_changes_111 ?_
    refine v_aload_n C 5 rfl rfl dX5_changes_113 ?_
    refine v_iload_n C 6 rfl rfl dX5_changes_114 ?_
    refine v_iconst C 1 (by decide) dX5_changes_115 ?_
    refine v_iload C 3 rfl dX5_changes_116 ?_
    refine v_iadd C dX5_changes_118 ?_
    rw [show (1 : Int32) + 0 = 1 from by decide]
    refine v_lload C 1 rfl dX5_changes_119 ?_
    refine v_l2i C dX5_changes_121 ?_
    rw [lO_i]
    refine v_callVv C (st := []) [.int (nI t), .int 1, .int (iO (posA q r t 0))] (c_X5_lays l S (iO (posA q r t 0)) am (cn q 1) t 1 (by have := (hA).hn; omega) (by omega) hA) ml_RX5_158 mi_yX5_lays hA.k0 (by decide) (by decide +kernel) rfl (Nat.le_of_ble_eq_true rfl) (Nat.le_of_ble_eq_true rfl) (Nat.le_of_ble_eq_true rfl) (Nat.le_of_ble_eq_true rfl) (Nat.le_of_ble_eq_true rfl) dX5_changes_122 (fun u h => ?_) _ rfl
    subst h
    refine v_aload_n C 5 rfl rfl dX5_changes_125 ?_
    refine v_getR C (am 11) fl_RX5_59 hA.k0 hA.r62 dX5_changes_126 ?_
    refine v_iload C 3 rfl dX5_changes_129 ?_
    refine v_lload C 0 rfl dX5_changes_131 ?_
    refine v_l2i C dX5_changes_133 ?_
    rw [lO_i]
    refine v_iastj C 0 rfl hA.k11 (vpi hA.n11 (show vp_in (nI 0) 2 from vp_in_nI (by decide) (by decide))) dX5_changes_134 ?_
    have hVa := NV.lay (t := t) (k := 1) hA hV (by decide) (rfl : iO (posA q r t 0) = iO (posA q r t 0))
    have hA1 : NA (tI (tI S (am 3) (9 * t + 1) (iO (posA q r t 0))) (am 11) 0 (iO (velA q r t 0))) am (cn q 1) := hA.tI.tI
    have hV1 : NV (tI (tI S (am 3) (9 * t + 1) (iO (posA q r t 0))) (am 11) 0 (iO (velA q r t 0))) am (zs q 3 t 1 (posA q r t 0)) := (FrN.A (Or.inr (Or.inr rfl))).toV (q := (zs q 3 t 1 (posA q r t 0))) hA.tI hVa
    have hB1 : BI (zs q 3 t 1 (posA q r t 0)) := pos_BI hB ht (posA_bd hB hr (by decide) hr0)
    refine v_iinc C 1 3 [(4, .int 1), (9, .long (lO (velA q r t 0))), (7, .long (lO (posA q r t 0))), (5, .long (lO (rsd q r t 0))), (3, .int (iO (zz q 2 r 0 - zz q 3 t 0))), (0, .ref (am 0)), (1, .int (nI t)), (2, .int (nI r))] rfl (by decide) (by decide) rfl dX5_changes_135 ?_
    refine v_goto C 17 (by decide) dX5_changes_138 ?_
    refine v_iload C 0 rfl dX5_changes_17 ?_
    refine v_iconst C 2 (by decide) dX5_changes_19 ?_
    refine v_icmp_ge C 141 (by decide) dX5_changes_20 (fun q => absurd q (by decide)) (fun _ => ?_)
    refine v_aload_n C 5 rfl rfl dX5_changes_23 ?_
    refine v_iload_n C 7 rfl rfl dX5_changes_24 ?_
    refine v_iload_n C 6 rfl rfl dX5_changes_25 ?_
    refine v_iload C 0 rfl dX5_changes_26 ?_
    refine v_callVl C (st := []) [.int (nI r), .int (nI t), .int 1] (c_X5_residual l (tI (tI S (am 3) (9 * t + 1) (iO (posA q r t 0))) (am 11) 0 (iO (velA q r t 0))) am (zs q 3 t 1 (posA q r t 0)) hB1 hA1 hV1 r hr t ht 1 (by omega)) ml_RX5_118 mi_yX5_residual hA.k0 (by decide) (by decide +kernel) rfl (Nat.le_of_ble_eq_true rfl) (Nat.le_of_ble_eq_true rfl) (Nat.le_of_ble_eq_true rfl) (Nat.le_of_ble_eq_true rfl) (Nat.le_of_ble_eq_true rfl) dX5_changes_28 (fun r u h => ?_) _ rfl
    obtain ⟨rfl, rfl⟩ := h
    rw [rsd_z1]
    refine v_lstore C [(5, .long (lO (rsd q r t 1))), (4, .int 1), (9, .long (lO (velA q r t 0))), (7, .long (lO (posA q r t 0))), (3, .int (iO (zz q 2 r 0 - zz q 3 t 0))), (0, .ref (am 0)), (1, .int (nI t)), (2, .int (nI r))] (by decide) rfl dX5_changes_31 ?_
    refine v_aload_n C 5 rfl rfl dX5_changes_33 ?_
    refine v_iload_n C 6 rfl rfl dX5_changes_34 ?_
    refine v_aload_n C 5 rfl rfl dX5_changes_35 ?_
    refine v_getR C (am 6) fl_RX5_28 hA.k0 hA.r47 dX5_changes_36 ?_
    refine v_iload_n C 7 rfl rfl dX5_changes_39 ?_
    refine v_iald C (iO (zz q 2 r 0)) hA.k6 (vpi hA.n6 (vp_in_nI (by omega) (by decide))) ((congrArg _ (nI_clamp (by omega))).trans (hV1.t6 r (by omega))) dX5_changes_40 ?_
    refine v_iload C 1 rfl dX5_changes_41 ?_
    refine v_callVl C (st := []) [.int (nI t), .int (iO (zz q 2 r 0)), .int 1] (c_X5_ahead l (tI (tI S (am 3) (9 * t + 1) (iO (posA q r t 0))) (am 11) 0 (iO (velA q r t 0))) am (zs q 3 t 1 (posA q r t 0)) hB1 hA1 hV1 t ht 1 (by omega) (zz q 2 r 0) hz0) ml_RX5_114 mi_yX5_ahead hA.k0 (by decide) (by decide +kernel) rfl (Nat.le_of_ble_eq_true rfl) (Nat.le_of_ble_eq_true rfl) (Nat.le_of_ble_eq_true rfl) (Nat.le_of_ble_eq_true rfl) (Nat.le_of_ble_eq_true rfl) dX5_changes_43 (fun r u h => ?_) _ rfl
    obtain ⟨rfl, rfl⟩ := h
    rw [show ahd (zs q 3 t 1 (posA q r t 0)) t (zz q 2 r 0) 1 = ahd q t (zz q 2 r 0) 1 from ahd_z1]
    refine v_lload C 0 rfl dX5_changes_46 ?_
    refine v_aload_n C 5 rfl rfl dX5_changes_48 ?_
    refine v_getI C (iO (zz q 0 0 1)) fl_RX5_41 hA.k0 hV.v52 dX5_changes_49 ?_
    refine v_i2l C dX5_changes_52 ?_
    refine v_lmul C dX5_changes_53 ?_
    refine v_ldc2 C kl_RX5_97 dX5_changes_54 ?_
    refine v_ldiv C (by decide) dX5_changes_57 ?_
    refine v_ladd C dX5_changes_58 ?_
    rw [show ((lO (ahd q t (zz q 2 r 0) 1)) + (((lO (rsd q r t 1)) * ((iO (zz q 0 0 1)).toInt64)) / 16)) = lO (posA q r t 1) from pos_L hB hr1]
    refine v_lstore C [(7, .long (lO (posA q r t 1))), (5, .long (lO (rsd q r t 1))), (4, .int 1), (9, .long (lO (velA q r t 0))), (3, .int (iO (zz q 2 r 0 - zz q 3 t 0))), (0, .ref (am 0)), (1, .int (nI t)), (2, .int (nI r))] (by decide) rfl dX5_changes_59 ?_
    refine v_aload_n C 5 rfl rfl dX5_changes_61 ?_
    refine v_iload_n C 6 rfl rfl dX5_changes_62 ?_
    refine v_iconst C 3 (by decide) dX5_changes_63 ?_
    refine v_iload C 2 rfl dX5_changes_64 ?_
    refine v_iadd C dX5_changes_66 ?_
    rw [show (3 : Int32) + 1 = 4 from by decide]
    refine v_callVi C (st := []) [.int (nI t), .int 4] (c_X5_of l (tI (tI S (am 3) (9 * t + 1) (iO (posA q r t 0))) (am 11) 0 (iO (velA q r t 0))) am (cn q 1) t 4 (by have := (hA1).hn; omega) (by omega) hA1) ml_RX5_74 mi_yX5_of hA.k0 (by decide) (by decide +kernel) rfl (Nat.le_of_ble_eq_true rfl) (Nat.le_of_ble_eq_true rfl) (Nat.le_of_ble_eq_true rfl) (Nat.le_of_ble_eq_true rfl) (Nat.le_of_ble_eq_true rfl) dX5_changes_67 (fun r u h => ?_) _ rfl
    obtain ⟨rfl, rfl⟩ := h
    rw [(hV1).m t ht 4 (by omega)]
    rw [show zz (zs q 3 t 1 (posA q r t 0)) 3 t 4 = zz q 3 t 4 from by rw [zz_zs, if_neg (by omega)]]
    refine v_i2l C dX5_changes_70 ?_
    refine v_lstore C [(9, .long ((iO (zz q 3 t 4)).toInt64)), (7, .long (lO (posA q r t 1))), (5, .long (lO (rsd q r t 1))), (4, .int 1), (3, .int (iO (zz q 2 r 0 - zz q 3 t 0))), (0, .ref (am 0)), (1, .int (nI t)), (2, .int (nI r))] (by decide) rfl dX5_changes_71 ?_
    refine v_iload_n C 4 rfl rfl dX5_changes_73 ?_
    refine v_if_le C 113 (by decide) dX5_changes_74 (fun q => (c74 q).elim) (fun c74 => ?_)
    refine v_lload C 0 rfl dX5_changes_77 ?_
    refine v_lload C 2 rfl dX5_changes_79 ?_
    refine v_aload_n C 5 rfl rfl dX5_changes_81 ?_
    refine v_getI C (iO (zz q 0 0 2)) fl_RX5_44 hA.k0 hV.v53 dX5_changes_82 ?_
    refine v_i2l C dX5_changes_85 ?_
    refine v_lmul C dX5_changes_86 ?_
    refine v_ldc2 C kl_RX5_97 dX5_changes_87 ?_
    refine v_iload_n C 4 rfl rfl dX5_changes_90 ?_
    refine v_i2l C dX5_changes_91 ?_
    refine v_lmul C dX5_changes_92 ?_
    refine v_ldiv C (ps_ne hB hr ht hp) dX5_changes_93 ?_
    refine v_ladd C dX5_changes_94 ?_
    refine v_lstore C [(9, .long (((iO (zz q 3 t 4)).toInt64) + (((lO (rsd q r t 1)) * ((iO (zz q 0 0 2)).toInt64)) / (16 * ((iO (zz q 2 r 0 - zz q 3 t 0)).toInt64))))), (7, .long (lO (posA q r t 1))), (5, .long (lO (rsd q r t 1))), (4, .int 1), (3, .int (iO (zz q 2 r 0 - zz q 3 t 0))), (0, .ref (am 0)), (1, .int (nI t)), (2, .int (nI r))] (by decide) rfl dX5_changes_95 ?_
    refine v_ldc2 C kl_RX5_147 dX5_changes_97 ?_
    refine v_ldc2 C kl_RX5_149 dX5_changes_100 ?_
    refine v_lload C 0 rfl dX5_changes_103 ?_
    refine v_minL C jl_RX5_151 (Nat.le_of_ble_eq_true rfl) (Nat.le_of_ble_eq_true rfl) (Nat.le_of_ble_eq_true rfl) (Nat.le_of_ble_eq_true rfl) (Nat.le_of_ble_eq_true rfl) dX5_changes_105 ?_
    refine v_maxL C jl_RX5_155 (Nat.le_of_ble_eq_true rfl) (Nat.le_of_ble_eq_true rfl) (Nat.le_of_ble_eq_true rfl) (Nat.le_of_ble_eq_true rfl) (Nat.le_of_ble_eq_true rfl) dX5_changes_108 ?_
    rw [show (if (if (((iO (zz q 3 t 4)).toInt64) + (((lO (rsd q r t 1)) * ((iO (zz q 0 0 2)).toInt64)) / (16 * ((iO (zz q 2 r 0 - zz q 3 t 0)).toInt64)))) < 1600 then (((iO (zz q 3 t 4)).toInt64) + (((lO (rsd q r t 1)) * ((iO (zz q 0 0 2)).toInt64)) / (16 * ((iO (zz q 2 r 0 - zz q 3 t 0)).toInt64)))) else 1600) < (-1600) then (-1600) else (if (((iO (zz q 3 t 4)).toInt64) + (((lO (rsd q r t 1)) * ((iO (zz q 0 0 2)).toInt64)) / (16 * ((iO (zz q 2 r 0 - zz q 3 t 0)).toInt64)))) < 1600 then (((iO (zz q 3 t 4)).toInt64) + (((lO (rsd q r t 1)) * ((iO (zz q 0 0 2)).toInt64)) / (16 * ((iO (zz q 2 r 0 - zz q 3 t 0)).toInt64)))) else 1600)) = lO (velA q r t 1) from vel_L hB hr ht (by decide) hr1 hp _ rfl]
    refine v_lstore C [(9, .long (lO (velA q r t 1))), (7, .long (lO (posA q r t 1))), (5, .long (lO (rsd q r t 1))), (4, .int 1), (3, .int (iO (zz q 2 r 0 - zz q 3 t 0))), (0, .ref (am 0)), (1, .int (nI t)), (2, .int (nI r))] (by decide) rfl dX5_changes_111 ?_
    refine v_aload_n C 5 rfl rfl dX5_changes_113 ?_
    refine v_iload_n C 6 rfl rfl dX5_changes_114 ?_
    refine v_iconst C 1 (by decide) dX5_changes_115 ?_
    refine v_iload C 3 rfl dX5_changes_116 ?_
    refine v_iadd C dX5_changes_118 ?_
    rw [show (1 : Int32) + 1 = 2 from by decide]
    refine v_lload C 1 rfl dX5_changes_119 ?_
    refine v_l2i C dX5_changes_121 ?_
    rw [lO_i]
    refine v_callVv C (st := []) [.int (nI t), .int 2, .int (iO (posA q r t 1))] (c_X5_lays l (tI (tI S (am 3) (9 * t + 1) (iO (posA q r t 0))) (am 11) 0 (iO (velA q r t 0))) (iO (posA q r t 1)) am (cn q 1) t 2 (by have := (hA1).hn; omega) (by omega) hA1) ml_RX5_158 mi_yX5_lays hA.k0 (by decide) (by decide +kernel) rfl (Nat.le_of_ble_eq_true rfl) (Nat.le_of_ble_eq_true rfl) (Nat.le_of_ble_eq_true rfl) (Nat.le_of_ble_eq_true rfl) (Nat.le_of_ble_eq_true rfl) dX5_changes_122 (fun u h => ?_) _ rfl
    subst h
    refine v_aload_n C 5 rfl rfl dX5_changes_125 ?_
    refine v_getR C (am 11) fl_RX5_59 hA.k0 hA.r62 dX5_changes_126 ?_
    refine v_iload C 3 rfl dX5_changes_129 ?_
    refine v_lload C 0 rfl dX5_changes_131 ?_
    refine v_l2i C dX5_changes_133 ?_
    rw [lO_i]
    refine v_iastj C 1 rfl hA.k11 (vpi hA.n11 (show vp_in (nI 1) 2 from vp_in_nI (by decide) (by decide))) dX5_changes_134 ?_
    refine v_iinc C 2 3 [(4, .int 2), (9, .long (lO (velA q r t 1))), (7, .long (lO (posA q r t 1))), (5, .long (lO (rsd q r t 1))), (3, .int (iO (zz q 2 r 0 - zz q 3 t 0))), (0, .ref (am 0)), (1, .int (nI t)), (2, .int (nI r))] rfl (by decide) (by decide) rfl dX5_changes_135 ?_
    refine v_goto C 17 (by decide) dX5_changes_138 ?_
    refine v_iload C 0 rfl dX5_changes_17 ?_
    refine v_iconst C 2 (by decide) dX5_changes_19 ?_
    refine v_icmp_ge C 141 (by decide) dX5_changes_20 (fun _ => ?_) (fun q => absurd (by decide) q)
    have hVb := NV.lay (q := (zs q 3 t 1 (posA q r t 0))) (t := t) (k := 2) hA1 hV1 (by decide) (rfl : iO (posA q r t 1) = iO (posA q r t 1))
    have hA2 : NA (tI (tI (tI (tI S (am 3) (9 * t + 1) (iO (posA q r t 0))) (am 11) 0 (iO (velA q r t 0))) (am 3) (9 * t + 2) (iO (posA q r t 1))) (am 11) 1 (iO (velA q r t 1))) am (cn q 1) := hA1.tI.tI
    have hV2 : NV (tI (tI (tI (tI S (am 3) (9 * t + 1) (iO (posA q r t 0))) (am 11) 0 (iO (velA q r t 0))) (am 3) (9 * t + 2) (iO (posA q r t 1))) (am 11) 1 (iO (velA q r t 1))) am (zs (zs q 3 t 1 (posA q r t 0)) 3 t 2 (posA q r t 1)) := (FrN.A (Or.inr (Or.inr rfl))).toV (q := (zs (zs q 3 t 1 (posA q r t 0)) 3 t 2 (posA q r t 1))) hA1.tI hVb
    have hm1 : aI (tI (tI (tI (tI S (am 3) (9 * t + 1) (iO (posA q r t 0))) (am 11) 0 (iO (velA q r t 0))) (am 3) (9 * t + 2) (iO (posA q r t 1))) (am 11) 1 (iO (velA q r t 1))) (am 11) 1 = iO (velA q r t 1) := by rw [aI_tI1, if_pos rfl]
    have hm0 : aI (tI (tI (tI (tI S (am 3) (9 * t + 1) (iO (posA q r t 0))) (am 11) 0 (iO (velA q r t 0))) (am 3) (9 * t + 2) (iO (posA q r t 1))) (am 11) 1 (iO (velA q r t 1))) (am 11) 0 = iO (velA q r t 0) := by rw [aI_tI1, if_neg (by decide), aI_tI2 n3_11, aI_tI1, if_pos rfl]
    have hq0 : hI (tI (tI (tI (tI S (am 3) (9 * t + 1) (iO (posA q r t 0))) (am 11) 0 (iO (velA q r t 0))) (am 3) (9 * t + 2) (iO (posA q r t 1))) (am 11) 1 (iO (velA q r t 1))) 61 (am 0) = hI S 61 (am 0) := by rw [hI_tI, hI_tI, hI_tI, hI_tI]
    have hq1 : aI (tI (tI (tI (tI S (am 3) (9 * t + 1) (iO (posA q r t 0))) (am 11) 0 (iO (velA q r t 0))) (am 3) (9 * t + 2) (iO (posA q r t 1))) (am 11) 1 (iO (velA q r t 1))) (am 10) = aI S (am 10) := by rw [aI_tI2 n10_11, aI_tI2 n3_10, aI_tI2 n10_11, aI_tI2 n3_10]
    refine V.sub [5, 6, 7] rfl (sg_X5_changes (tI (tI (tI (tI S (am 3) (9 * t + 1) (iO (posA q r t 0))) (am 11) 0 (iO (velA q r t 0))) (am 3) (9 * t + 2) (iO (posA q r t 1))) (am 11) 1 (iO (velA q r t 1))) am q r t hr h04 hB hA2 hV2 hSG ht hc5 hm0 hm1 C (fun u am2 e2 gA gV gF => ?_))
    have gF9 : FrP S u am := gF.of hq0 hq1
    exact v_vret C hRT (Nat.le_of_ble_eq_true rfl) (Nat.le_of_ble_eq_true rfl) dX5_changes_206 ⟨rfl, am2, e2, gA, gV, gF9⟩
