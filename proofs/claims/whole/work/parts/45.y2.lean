theorem bI_in {x : Int32} (lo hi : Int32) : (¬ x.toInt64 < lo.toInt64 ∧ ¬ hi.toInt64 < x.toInt64) ↔ (¬ x < lo ∧ ¬ hi < x) := by rw [tl_lt, tl_lt]
set_option maxRecDepth 100000 in
set_option maxHeartbeats 4000000 in
theorem c_X5_isPlace (l : Launch) (S : HS) (x y : Int32) : cM l yX5_isPlace cX5_isPlace 2 (Option.some Jvm.ClassFile.FieldType.boolean) 4 [.int x, .int y] S (pI fun r u => bI ((¬ x < (-999) ∧ ¬ 999 < x) ∧ (¬ y < (-999) ∧ ¬ 999 < y)) = r ∧ S = u) 0 0 := by
  refine cM_intro (by decide +kernel) cd_X5_isPlace (Nat.le_of_ble_eq_true rfl) ?_
  intro pP eE sS mM aA bB tT cC G A C hRT hin
  refine V.lvs (lv2 := [(0, .int x), (1, .int y)]) rfl ?_
  refine v_iload_n C 0 rfl rfl dX5_isPlace_0 ?_
  refine v_i2l C dX5_isPlace_1 ?_
  refine v_ldc2 C kl_RX5_103 dX5_isPlace_2 ?_
  refine v_ldc2 C kl_RX5_105 dX5_isPlace_5 ?_
  refine v_callSi C (st := []) [.long x.toInt64, .long (-999), .long 999] (c_X5_in l S x.toInt64 (-999) 999) ml_RX5_67 ms_yX5_in rfl (Nat.le_of_ble_eq_true rfl) (Nat.le_of_ble_eq_true rfl) (Nat.le_of_ble_eq_true rfl) (Nat.le_of_ble_eq_true rfl) (Nat.le_of_ble_eq_true rfl) dX5_isPlace_8 (fun r u h => ?_) _ rfl
  obtain ⟨rfl, rfl⟩ := h
  refine v_if_eq C 32 (by decide) dX5_isPlace_11 (fun c11 => ?_) (fun c11 => ?_)
  · refine v_iconst C 0 (by decide) dX5_isPlace_32 ?_
    exact v_zret C rfl hRT (Nat.le_of_ble_eq_true rfl) (Nat.le_of_ble_eq_true rfl) dX5_isPlace_33 ⟨_, rfl, bI0 (fun z => bI_e0 c11 ((bI_in (-999) 999).mpr z.1)), rfl⟩
  · refine v_iload_n C 1 rfl rfl dX5_isPlace_14 ?_
    refine v_i2l C dX5_isPlace_15 ?_
    refine v_ldc2 C kl_RX5_103 dX5_isPlace_16 ?_
    refine v_ldc2 C kl_RX5_105 dX5_isPlace_19 ?_
    refine v_callSi C (st := []) [.long y.toInt64, .long (-999), .long 999] (c_X5_in l S y.toInt64 (-999) 999) ml_RX5_67 ms_yX5_in rfl (Nat.le_of_ble_eq_true rfl) (Nat.le_of_ble_eq_true rfl) (Nat.le_of_ble_eq_true rfl) (Nat.le_of_ble_eq_true rfl) (Nat.le_of_ble_eq_true rfl) dX5_isPlace_22 (fun r u h => ?_) _ rfl
    obtain ⟨rfl, rfl⟩ := h
    refine v_if_eq C 32 (by decide) dX5_isPlace_25 (fun c25 => ?_) (fun c25 => ?_)
    · refine v_iconst C 0 (by decide) dX5_isPlace_32 ?_
      exact v_zret C rfl hRT (Nat.le_of_ble_eq_true rfl) (Nat.le_of_ble_eq_true rfl) dX5_isPlace_33 ⟨_, rfl, bI0 (fun z => bI_e0 c25 ((bI_in (-999) 999).mpr z.2)), rfl⟩
    · refine v_iconst C 1 (by decide) dX5_isPlace_28 ?_
      refine v_goto C 33 (by decide) dX5_isPlace_29 ?_
      exact v_zret C rfl hRT (Nat.le_of_ble_eq_true rfl) (Nat.le_of_ble_eq_true rfl) dX5_isPlace_33 ⟨_, rfl, bI1 ⟨(bI_in (-999) 999).mp (bI_n0 c11), (bI_in (-999) 999).mp (bI_n0 c25)⟩, rfl⟩
theorem st_ne {q : AS} (hB : BI q) {t : Nat} (ht : t < cn q 1) (k : Int) (hk : k = 0 ∨ k = 1 ∨ k = 2) : iO (zz q 3 t 7) = iO k ↔ zz q 3 t 7 = k := by
  have := hB.bs t ht
  exact iO_eq (by omega) (by omega) (by omega) (by omega)
set_option maxRecDepth 100000 in
set_option maxHeartbeats 4000000 in
theorem c_X5_isLive (l : Launch) (S : HS) (am : AM) (q : AS) (hB : BI q) (hA : NA S am (cn q 1)) (hV : NV S am q) (t : Nat) (ht : t < cn q 1)  : cM l yX5_isLive cX5_isLive 2 (Option.some Jvm.ClassFile.FieldType.boolean) 4 [.ref (am 0), .int (nI t)] S (pI fun r u => bI (zz q 3 t 7 = 0) = r ∧ S = u) 0 0 := by
  refine cM_intro (by decide +kernel) cd_X5_isLive (Nat.le_of_ble_eq_true rfl) ?_
  intro pP eE sS mM aA bB tT cC G A C hRT hin
  refine V.lvs (lv2 := [(0, .ref (am 0)), (1, .int (nI t))]) rfl ?_
  refine v_aload_n C 0 rfl rfl dX5_isLive_0 ?_
  refine v_iload_n C 1 rfl rfl dX5_isLive_1 ?_
  refine v_bipush C 7 (by decide) dX5_isLive_2 ?_
  refine v_callVi C (st := []) [.int (nI t), .int 7] (c_X5_of l S am (cn q 1) t 7 (by have := (hA).hn; omega) (by omega) hA) ml_RX5_74 mi_yX5_of hA.k0 (by decide) (by decide +kernel) rfl (Nat.le_of_ble_eq_true rfl) (Nat.le_of_ble_eq_true rfl) (Nat.le_of_ble_eq_true rfl) (Nat.le_of_ble_eq_true rfl) (Nat.le_of_ble_eq_true rfl) dX5_isLive_4 (fun r u h => ?_) _ rfl
  obtain ⟨rfl, rfl⟩ := h
  rw [(hV).m t ht 7 (by omega)]
  refine v_if_ne C 14 (by decide) dX5_isLive_7 (fun c7 => ?_) (fun c7 => ?_)
  · refine v_iconst C 0 (by decide) dX5_isLive_14 ?_
    exact v_zret C rfl hRT (Nat.le_of_ble_eq_true rfl) (Nat.le_of_ble_eq_true rfl) dX5_isLive_15 ⟨_, rfl, bI0 (fun z => c7 ((st_ne hB ht 0 (by omega)).mpr z)), rfl⟩
  · refine v_iconst C 1 (by decide) dX5_isLive_10 ?_
    refine v_goto C 15 (by decide) dX5_isLive_11 ?_
    exact v_zret C rfl hRT (Nat.le_of_ble_eq_true rfl) (Nat.le_of_ble_eq_true rfl) dX5_isLive_15 ⟨_, rfl, bI1 ((st_ne hB ht 0 (by omega)).mp c7), rfl⟩
theorem tm_b {q : AS} (hB : BI q) {t : Nat} (ht : t < cn q 1) : bd (zz q 3 t 0) (-20000) 30000 := (hB.bt t ht).1
theorem ahd_L {q : AS} (hB : BI q) {t : Nat} (ht : t < cn q 1) {tm : Int} (h : bd tm (-20000) 40000) {ax : Nat} (hax : ax < 2) : (iO (zz q 3 t (1 + ax))).toInt64 + (iO (zz q 3 t (3 + ax))).toInt64 * (iO tm - iO (zz q 3 t 0)).toInt64 = lO (ahd q t tm ax) := by
  obtain ⟨b0, b1, b2, b3, b4⟩ := hB.bt t ht
  have hx : bd (zz q 3 t (1 + ax)) (-24000) 24000 := by
    rcases (show ax = 0 ∨ ax = 1 by omega) with rfl | rfl
    · exact b1
    · exact b2
  have hv : bd (zz q 3 t (3 + ax)) (-1600) 1600 := by
    rcases (show ax = 0 ∨ ax = 1 by omega) with rfl | rfl
    · exact b3
    · exact b4
  rw [iO_sub, iO_l (by unfold bd at *; omega) (by unfold bd at *; omega), iO_l (by unfold bd at *; omega) (by unfold bd at *; omega), iO_l (by unfold bd at *; omega) (by unfold bd at *; omega), lO_mul, lO_add]
  rfl
theorem nI_s (a b : Nat) : nI a + nI b = nI (a + b) := nI_add' a b
set_option maxRecDepth 100000 in
set_option maxHeartbeats 4000000 in
theorem c_X5_ahead (l : Launch) (S : HS) (am : AM) (q : AS) (hB : BI q) (hA : NA S am (cn q 1)) (hV : NV S am q) (t : Nat) (ht : t < cn q 1) (ax : Nat) (hax : ax < 2) (tm : Int) (htm : bd tm (-20000) 40000)  : cM l yX5_ahead cX5_ahead 4 (Option.some Jvm.ClassFile.FieldType.long) 4 [.ref (am 0), .int (nI t), .int (iO tm), .int (nI ax)] S (pL fun r u => lO (ahd q t tm ax) = r ∧ S = u) 0 0 := by
  refine cM_intro (by decide +kernel) cd_X5_ahead (Nat.le_of_ble_eq_true rfl) ?_
  intro pP eE sS mM aA bB tT cC G A C hRT hin
  refine V.lvs (lv2 := [(0, .ref (am 0)), (1, .int (nI t)), (2, .int (iO tm)), (3, .int (nI ax))]) rfl ?_
  refine v_aload_n C 0 rfl rfl dX5_ahead_0 ?_
  refine v_iload_n C 1 rfl rfl dX5_ahead_1 ?_
  refine v_iconst C 1 (by decide) dX5_ahead_2 ?_
  refine v_iload_n C 3 rfl rfl dX5_ahead_3 ?_
  refine v_iadd C dX5_ahead_4 ?_
  rw [show (1 : Int32) + nI ax = nI (1 + ax) from nI_s 1 ax]
  refine v_callVi C (st := []) [.int (nI t), .int (nI (1 + ax))] (c_X5_of l S am (cn q 1) t (1 + ax) (by have := (hA).hn; omega) (by omega) hA) ml_RX5_74 mi_yX5_of hA.k0 (by decide) (by decide +kernel) rfl (Nat.le_of_ble_eq_true rfl) (Nat.le_of_ble_eq_true rfl) (Nat.le_of_ble_eq_true rfl) (Nat.le_of_ble_eq_true rfl) (Nat.le_of_ble_eq_true rfl) dX5_ahead_5 (fun r u h => ?_) _ rfl
  obtain ⟨rfl, rfl⟩ := h
  rw [(hV).m t ht (1 + ax) (by omega)]
  refine v_i2l C dX5_ahead_8 ?_
  refine v_aload_n C 0 rfl rfl dX5_ahead_9 ?_
  refine v_iload_n C 1 rfl rfl dX5_ahead_10 ?_
  refine v_iconst C 3 (by decide) dX5_ahead_11 ?_
  refine v_iload_n C 3 rfl rfl dX5_ahead_12 ?_
  refine v_iadd C dX5_ahead_13 ?_
  rw [show (3 : Int32) + nI ax = nI (3 + ax) from nI_s 3 ax]
  refine v_callVi C (st := [.long ((iO (zz q 3 t (1 + ax))).toInt64)]) [.int (nI t), .int (nI (3 + ax))] (c_X5_of l S am (cn q 1) t (3 + ax) (by have := (hA).hn; omega) (by omega) hA) ml_RX5_74 mi_yX5_of hA.k0 (by decide) (by decide +kernel) rfl (Nat.le_of_ble_eq_true rfl) (Nat.le_of_ble_eq_true rfl) (Nat.le_of_ble_eq_true rfl) (Nat.le_of_ble_eq_true rfl) (Nat.le_of_ble_eq_true rfl) dX5_ahead_14 (fun r u h => ?_) _ rfl
  obtain ⟨rfl, rfl⟩ := h
  rw [(hV).m t ht (3 + ax) (by omega)]
  refine v_i2l C dX5_ahead_17 ?_
  refine v_iload_n C 2 rfl rfl dX5_ahead_18 ?_
  refine v_aload_n C 0 rfl rfl dX5_ahead_19 ?_
  refine v_iload_n C 1 rfl rfl dX5_ahead_20 ?_
  refine v_iconst C 0 (by decide) dX5_ahead_21 ?_
  refine v_callVi C (st := [.int (iO tm), .long ((iO (zz q 3 t (3 + ax))).toInt64), .long ((iO (zz q 3 t (1 + ax))).toInt64)]) [.int (nI t), .int 0] (c_X5_of l S am (cn q 1) t 0 (by have := (hA).hn; omega) (by omega) hA) ml_RX5_74 mi_yX5_of hA.k0 (by decide) (by decide +kernel) rfl (Nat.le_of_ble_eq_true rfl) (Nat.le_of_ble_eq_true rfl) (Nat.le_of_ble_eq_true rfl) (Nat.le_of_ble_eq_true rfl) (Nat.le_of_ble_eq_true rfl) dX5_ahead_22 (fun r u h => ?_) _ rfl
  obtain ⟨rfl, rfl⟩ := h
  rw [(hV).m t ht 0 (by omega)]
  refine v_isub C dX5_ahead_25 ?_
  refine v_i2l C dX5_ahead_26 ?_
  refine v_lmul C dX5_ahead_27 ?_
  refine v_ladd C dX5_ahead_28 ?_
  rw [ahd_L hB ht htm hax]
  exact v_lret C hRT (Nat.le_of_ble_eq_true rfl) (Nat.le_of_ble_eq_true rfl) dX5_ahead_29 ⟨_, rfl, rfl, rfl⟩
theorem rsd_L {q : AS} (hB : BI q) {r t : Nat} (hr : r < cn q 0) {ax : Nat} (hax : ax < 2) : (16 : Int64) * (iO (zz q 2 r (1 + ax))).toInt64 - lO (ahd q t (zz q 2 r 0) ax) = lO (rsd q r t ax) := by
  obtain ⟨-, b1, b2⟩ := hB.br r hr
  have hx : bd (zz q 2 r (1 + ax)) (-999) 999 := by
    rcases (show ax = 0 ∨ ax = 1 by omega) with rfl | rfl
    · exact b1
    · exact b2
  rw [iO_l (by unfold bd at *; omega) (by unfold bd at *; omega), show (16 : Int64) = lO 16 from rfl, lO_mul, lO_sub]
  rfl
theorem nI_ax {ax : Nat} (h : ax < 2) : (nI ax = 0 ↔ ax = 0) := ⟨fun z => nI_z z (by omega), fun z => by rw [z]; rfl⟩
set_option maxRecDepth 100000 in
set_option maxHeartbeats 4000000 in
theorem c_X5_residual (l : Launch) (S : HS) (am : AM) (q : AS) (hB : BI q) (hA : NA S am (cn q 1)) (hV : NV S am q) (r : Nat) (hr : r < cn q 0) (t : Nat) (ht : t < cn q 1) (ax : Nat) (hax : ax < 2)  : cM l yX5_residual cX5_residual 4 (Option.some Jvm.ClassFile.FieldType.long) 6 [.ref (am 0), .int (nI r), .int (nI t), .int (nI ax)] S (pL fun z u => lO (rsd q r t ax) = z ∧ S = u) 0 0 := by
  refine cM_intro (by decide +kernel) cd_X5_residual (Nat.le_of_ble_eq_true rfl) ?_
  intro pP eE sS mM aA bB tT cC G A C hRT hin
  refine V.lvs (lv2 := [(0, .ref (am 0)), (1, .int (nI r)), (2, .int (nI t)), (3, .int (nI ax))]) rfl ?_
  have h04 := hB.b0
  have hr0 : bd (zz q 2 r 0) (-20000) 40000 := by have := (hB.br r hr).1; unfold bd at *; omega
  refine v_ldc2 C kl_RX5_97 dX5_residual_0 ?_
  refine v_iload_n C 3 rfl rfl dX5_residual_3 ?_
  refine v_if_ne C 16 (by decide) dX5_residual_4 (fun c4 => ?_) (fun c4 => ?_)
  · obtain rfl : ax = 1 := by have : ¬ ax = 0 := fun z => c4 ((nI_ax hax).mpr z); omega
    refine v_aload_n C 0 rfl rfl dX5_residual_16 ?_
    refine v_getR C (am 8) fl_RX5_34 hA.k0 hA.r49 dX5_residual_17 ?_
    refine v_iload_n C 1 rfl rfl dX5_residual_20 ?_
    refine v_iald C (iO (zz q 2 r 2)) hA.k8 (by rw [hA.n8]; exact vp_in_nI (by omega) (by decide)) ((congrArg _ (nI_clamp (by omega))).trans (hV.t8 r (by omega))) dX5_residual_21 ?_
    refine v_i2l C dX5_residual_22 ?_
    refine v_lmul C dX5_residual_23 ?_
    refine v_aload_n C 0 rfl rfl dX5_residual_24 ?_
    refine v_iload_n C 2 rfl rfl dX5_residual_25 ?_
    refine v_aload_n C 0 rfl rfl dX5_residual_26 ?_
    refine v_getR C (am 6) fl_RX5_28 hA.k0 hA.r47 dX5_residual_27 ?_
    refine v_iload_n C 1 rfl rfl dX5_residual_30 ?_
    refine v_iald C (iO (zz q 2 r 0)) hA.k6 (by rw [hA.n6]; exact vp_in_nI (by omega) (by decide)) ((congrArg _ (nI_clamp (by omega))).trans (hV.t6 r (by omega))) dX5_residual_31 ?_
    refine v_iload_n C 3 rfl rfl dX5_residual_32 ?_
    refine v_callVl C (st := [.long (16 * ((iO (zz q 2 r 2)).toInt64))]) [.int (nI t), .int (iO (zz q 2 r 0)), .int (nI 1)] (c_X5_ahead l S am q hB hA hV t ht 1 (by omega) (zz q 2 r 0) hr0) ml_RX5_114 mi_yX5_ahead hA.k0 (by decide) (by decide +kernel) rfl (Nat.le_of_ble_eq_true rfl) (Nat.le_of_ble_eq_true rfl) (Nat.le_of_ble_eq_true rfl) (Nat.le_of_ble_eq_true rfl) (Nat.le_of_ble_eq_true rfl) dX5_residual_33 (fun r u h => ?_) _ rfl
    obtain ⟨rfl, rfl⟩ := h
    refine v_lsub C dX5_residual_36 ?_
    rw [show ((16 * ((iO (zz q 2 r 2)).toInt64)) - (lO (ahd q t (zz q 2 r 0) 1))) = lO (rsd q r t 1) from rsd_L hB hr (ax := 1) (by decide)]
    exact v_lret C hRT (Nat.le_of_ble_eq_true rfl) (Nat.le_of_ble_eq_true rfl) dX5_residual_37 ⟨_, rfl, rfl, rfl⟩
  · obtain rfl : ax = 0 := (nI_ax hax).mp c4
    refine v_aload_n C 0 rfl rfl dX5_residual_7 ?_
    refine v_getR C (am 7) fl_RX5_31 hA.k0 hA.r48 dX5_residual_8 ?_
    refine v_iload_n C 1 rfl rfl dX5_residual_11 ?_
    refine v_iald C (iO (zz q 2 r 1)) hA.k7 (by rw [hA.n7]; exact vp_in_nI (by omega) (by decide)) ((congrArg _ (nI_clamp (by omega))).trans (hV.t7 r (by omega))) dX5_residual_12 ?_
    refine v_goto C 22 (by decide) dX5_residual_13 ?_
    refine v_i2l C dX5_residual_22 ?_
    refine v_lmul C dX5_residual_23 ?_
    refine v_aload_n C 0 rfl rfl dX5_residual_24 ?_
    refine v_iload_n C 2 rfl rfl dX5_residual_25 ?_
    refine v_aload_n C 0 rfl rfl dX5_residual_26 ?_
    refine v_getR C (am 6) fl_RX5_28 hA.k0 hA.r47 dX5_residual_27 ?_
    refine v_iload_n C 1 rfl rfl dX5_residual_30 ?_
    refine v_iald C (iO (zz q 2 r 0)) hA.k6 (by rw [hA.n6]; exact vp_in_nI (by omega) (by decide)) ((congrArg _ (nI_clamp (by omega))).trans (hV.t6 r (by omega))) dX5_residual_31 ?_
    refine v_iload_n C 3 rfl rfl dX5_residual_32 ?_
    refine v_callVl C (st := [.long (16 * ((iO (zz q 2 r 1)).toInt64))]) [.int (nI t), .int (iO (zz q 2 r 0)), .int (nI 0)] (c_X5_ahead l S am q hB hA hV t ht 0 (by omega) (zz q 2 r 0) hr0) ml_RX5_114 mi_yX5_ahead hA.k0 (by decide) (by decide +kernel) rfl (Nat.le_of_ble_eq_true rfl) (Nat.le_of_ble_eq_true rfl) (Nat.le_of_ble_eq_true rfl) (Nat.le_of_ble_eq_true rfl) (Nat.le_of_ble_eq_true rfl) dX5_residual_33 (fun r u h => ?_) _ rfl
    obtain ⟨rfl, rfl⟩ := h
    refine v_lsub C dX5_residual_36 ?_
    rw [show ((16 * ((iO (zz q 2 r 1)).toInt64)) - (lO (ahd q t (zz q 2 r 0) 0))) = lO (rsd q r t 0) from rsd_L hB hr (ax := 0) (by decide)]
    exact v_lret C hRT (Nat.le_of_ble_eq_true rfl) (Nat.le_of_ble_eq_true rfl) dX5_residual_37 ⟨_, rfl, rfl, rfl⟩
