theorem bI_iff {P Q : Prop} [Decidable P] [Decidable Q] (h : P ↔ Q) : bI P = bI Q := by
  by_cases c : P
  · rw [bI1 c, bI1 (h.mp c)]
  · rw [bI0 c, bI0 (fun z => c (h.mpr z))]
theorem in_I {x : Int32} (lo hi : Int32) : bI (¬ x.toInt64 < lo.toInt64 ∧ ¬ hi.toInt64 < x.toInt64) = bI (¬ x < lo ∧ ¬ hi < x) := bI_iff (by rw [tl_lt, tl_lt])
theorem sn_I {x : Int32} : (¬ x < 0 ∧ ¬ 3 < x) ↔ (¬ x < 0 ∧ x < 4) := by
  rw [Int32.lt_iff_toInt_lt, Int32.lt_iff_toInt_lt, Int32.lt_iff_toInt_lt]
  have e1 : (3 : Int32).toInt = 3 := rfl
  have e2 : (4 : Int32).toInt = 4 := rfl
  omega
theorem tk_I {x : Int32} {n : Nat} (hn : n ≤ 60) : (¬ x < 0 ∧ ¬ nI n - 1 < x) ↔ (¬ x < 0 ∧ ¬ nI n ≤ x) := by
  rw [nI_iO, show (1 : Int32) = iO 1 from rfl, iO_sub, Int32.lt_iff_toInt_lt, Int32.lt_iff_toInt_lt, Int32.le_iff_toInt_le, iO_toInt (by omega) (by omega), iO_toInt (by omega) (by omega)]
  omega
theorem ix9 {t k : Nat} : 9 * nI t + nI k = nI (9 * t + k) := by
  rw [nI_iO, nI_iO, nI_iO, show (9 : Int32) = iO 9 from rfl, iO_mul, iO_add]
  congr 1
set_option maxRecDepth 100000 in
set_option maxHeartbeats 4000000 in
theorem c_X5_thrown (l : Launch) (S : HS) (am : AM) (n : Nat) (x : Int32) (hA : NA S am n) (hx : hI S 61 (am 0) = x) : cM l yX5_thrown cX5_thrown 1 (Option.some Jvm.ClassFile.FieldType.int) 2 [.ref (am 0)] S (pI fun r u => x = r ∧ S = u) 0 0 := by
  refine cM_intro (by decide +kernel) cd_X5_thrown (Nat.le_of_ble_eq_true rfl) ?_
  intro pP eE sS mM aA bB tT cC G A C hRT hin
  refine V.lvs (lv2 := [(0, .ref (am 0))]) rfl ?_
  refine v_aload_n C 0 rfl rfl dX5_thrown_0 ?_
  refine v_getI C x fl_RX5_62 hA.k0 hx dX5_thrown_1 ?_
  exact v_iret C hRT (Nat.le_of_ble_eq_true rfl) (Nat.le_of_ble_eq_true rfl) dX5_thrown_4 ⟨_, rfl, rfl, rfl⟩
set_option maxRecDepth 100000 in
set_option maxHeartbeats 4000000 in
theorem c_X5_in (l : Launch) (S : HS) (v lo hi : Int64) : cM l yX5_in cX5_in 6 (Option.some Jvm.ClassFile.FieldType.boolean) 2 [.long v, .long lo, .long hi] S (pI fun r u => bI (¬ v < lo ∧ ¬ hi < v) = r ∧ S = u) 0 0 := by
  refine cM_intro (by decide +kernel) cd_X5_in (Nat.le_of_ble_eq_true rfl) ?_
  intro pP eE sS mM aA bB tT cC G A C hRT hin
  refine V.lvs (lv2 := [(0, .long v), (2, .long lo), (4, .long hi)]) rfl ?_
  refine v_lload_n C 0 rfl rfl dX5_in_0 ?_
  refine v_lload_n C 1 rfl rfl dX5_in_1 ?_
  refine v_lcmp C dX5_in_2 ?_
  refine v_if_lt C 17 (by decide) dX5_in_3 (fun c3 => ?_) (fun c3 => ?_)
  · refine v_iconst C 0 (by decide) dX5_in_17 ?_
    exact v_zret C rfl hRT (Nat.le_of_ble_eq_true rfl) (Nat.le_of_ble_eq_true rfl) dX5_in_18 ⟨_, rfl, bI0 (fun z => z.1 ((lg_cmp_lt _ _).mp c3)), rfl⟩
  · refine v_lload_n C 0 rfl rfl dX5_in_6 ?_
    refine v_lload C 2 rfl dX5_in_7 ?_
    refine v_lcmp C dX5_in_9 ?_
    refine v_if_gt C 17 (by decide) dX5_in_10 (fun c10 => ?_) (fun c10 => ?_)
    · refine v_iconst C 0 (by decide) dX5_in_17 ?_
      exact v_zret C rfl hRT (Nat.le_of_ble_eq_true rfl) (Nat.le_of_ble_eq_true rfl) dX5_in_18 ⟨_, rfl, bI0 (fun z => z.2 ((lg_cmp_gt _ _).mp c10)), rfl⟩
    · refine v_iconst C 1 (by decide) dX5_in_13 ?_
      refine v_goto C 18 (by decide) dX5_in_14 ?_
      exact v_zret C rfl hRT (Nat.le_of_ble_eq_true rfl) (Nat.le_of_ble_eq_true rfl) dX5_in_18 ⟨_, rfl, bI1 ⟨fun z => c3 ((lg_cmp_lt _ _).mpr z), fun z => c10 ((lg_cmp_gt _ _).mpr z)⟩, rfl⟩
set_option maxRecDepth 100000 in
set_option maxHeartbeats 4000000 in
theorem c_X5_isSensor (l : Launch) (S : HS) (i : Int32) : cM l yX5_isSensor cX5_isSensor 1 (Option.some Jvm.ClassFile.FieldType.boolean) 4 [.int i] S (pI fun r u => bI (¬ i < 0 ∧ i < 4) = r ∧ S = u) 0 0 := by
  refine cM_intro (by decide +kernel) cd_X5_isSensor (Nat.le_of_ble_eq_true rfl) ?_
  intro pP eE sS mM aA bB tT cC G A C hRT hin
  refine V.lvs (lv2 := [(0, .int i)]) rfl ?_
  refine v_iload_n C 0 rfl rfl dX5_isSensor_0 ?_
  refine v_i2l C dX5_isSensor_1 ?_
  refine v_lconst C 0 (by decide) dX5_isSensor_2 ?_
  refine v_ldc2 C kl_RX5_65 dX5_isSensor_3 ?_
  refine v_callSi C (st := []) [.long i.toInt64, .long 0, .long 3] (c_X5_in l S i.toInt64 0 3) ml_RX5_67 ms_yX5_in rfl (Nat.le_of_ble_eq_true rfl) (Nat.le_of_ble_eq_true rfl) (Nat.le_of_ble_eq_true rfl) (Nat.le_of_ble_eq_true rfl) (Nat.le_of_ble_eq_true rfl) dX5_isSensor_6 (fun r u h => ?_) _ rfl
  obtain ⟨rfl, rfl⟩ := h
  exact v_zret C (bI_nar _) hRT (Nat.le_of_ble_eq_true rfl) (Nat.le_of_ble_eq_true rfl) dX5_isSensor_9 ⟨_, rfl, ((in_I 0 3).trans (bI_iff sn_I)).symm, rfl⟩
set_option maxRecDepth 100000 in
set_option maxHeartbeats 4000000 in
theorem c_X5_isTime (l : Launch) (S : HS) (i : Int32) : cM l yX5_isTime cX5_isTime 1 (Option.some Jvm.ClassFile.FieldType.boolean) 4 [.int i] S (pI fun r u => bI (¬ i < 0 ∧ ¬ 9999 < i) = r ∧ S = u) 0 0 := by
  refine cM_intro (by decide +kernel) cd_X5_isTime (Nat.le_of_ble_eq_true rfl) ?_
  intro pP eE sS mM aA bB tT cC G A C hRT hin
  refine V.lvs (lv2 := [(0, .int i)]) rfl ?_
  refine v_iload_n C 0 rfl rfl dX5_isTime_0 ?_
  refine v_i2l C dX5_isTime_1 ?_
  refine v_lconst C 0 (by decide) dX5_isTime_2 ?_
  refine v_ldc2 C kl_RX5_78 dX5_isTime_3 ?_
  refine v_callSi C (st := []) [.long i.toInt64, .long 0, .long 9999] (c_X5_in l S i.toInt64 0 9999) ml_RX5_67 ms_yX5_in rfl (Nat.le_of_ble_eq_true rfl) (Nat.le_of_ble_eq_true rfl) (Nat.le_of_ble_eq_true rfl) (Nat.le_of_ble_eq_true rfl) (Nat.le_of_ble_eq_true rfl) dX5_isTime_6 (fun r u h => ?_) _ rfl
  obtain ⟨rfl, rfl⟩ := h
  exact v_zret C (bI_nar _) hRT (Nat.le_of_ble_eq_true rfl) (Nat.le_of_ble_eq_true rfl) dX5_isTime_9 ⟨_, rfl, (in_I 0 9999).symm, rfl⟩
set_option maxRecDepth 100000 in
set_option maxHeartbeats 4000000 in
theorem c_X5_isAhead (l : Launch) (S : HS) (i : Int32) : cM l yX5_isAhead cX5_isAhead 1 (Option.some Jvm.ClassFile.FieldType.boolean) 4 [.int i] S (pI fun r u => bI (¬ i < (-9999) ∧ ¬ 39999 < i) = r ∧ S = u) 0 0 := by
  refine cM_intro (by decide +kernel) cd_X5_isAhead (Nat.le_of_ble_eq_true rfl) ?_
  intro pP eE sS mM aA bB tT cC G A C hRT hin
  refine V.lvs (lv2 := [(0, .int i)]) rfl ?_
  refine v_iload_n C 0 rfl rfl dX5_isAhead_0 ?_
  refine v_i2l C dX5_isAhead_1 ?_
  refine v_ldc2 C kl_RX5_210 dX5_isAhead_2 ?_
  refine v_ldc2 C kl_RX5_212 dX5_isAhead_5 ?_
  refine v_callSi C (st := []) [.long i.toInt64, .long (-9999), .long 39999] (c_X5_in l S i.toInt64 (-9999) 39999) ml_RX5_67 ms_yX5_in rfl (Nat.le_of_ble_eq_true rfl) (Nat.le_of_ble_eq_true rfl) (Nat.le_of_ble_eq_true rfl) (Nat.le_of_ble_eq_true rfl) (Nat.le_of_ble_eq_true rfl) dX5_isAhead_8 (fun r u h => ?_) _ rfl
  obtain ⟨rfl, rfl⟩ := h
  exact v_zret C (bI_nar _) hRT (Nat.le_of_ble_eq_true rfl) (Nat.le_of_ble_eq_true rfl) dX5_isAhead_11 ⟨_, rfl, (in_I (-9999) 39999).symm, rfl⟩
set_option maxRecDepth 100000 in
set_option maxHeartbeats 4000000 in
theorem c_X5_isTrack (l : Launch) (S : HS) (am : AM) (q : AS) (i : Int32) (hA : NA S am (cn q 1)) (hv44 : hI S 44 (am 0) = nI (cn q 1)) : cM l yX5_isTrack cX5_isTrack 2 (Option.some Jvm.ClassFile.FieldType.boolean) 4 [.ref (am 0), .int i] S (pI fun r u => bI (¬ i < 0 ∧ ¬ nI (cn q 1) ≤ i) = r ∧ S = u) 0 0 := by
  refine cM_intro (by decide +kernel) cd_X5_isTrack (Nat.le_of_ble_eq_true rfl) ?_
  intro pP eE sS mM aA bB tT cC G A C hRT hin
  refine V.lvs (lv2 := [(0, .ref (am 0)), (1, .int i)]) rfl ?_
  refine v_iload_n C 1 rfl rfl dX5_isTrack_0 ?_
  refine v_i2l C dX5_isTrack_1 ?_
  refine v_lconst C 0 (by decide) dX5_isTrack_2 ?_
  refine v_aload_n C 0 rfl rfl dX5_isTrack_3 ?_
  refine v_getI C (nI (cn q 1)) fl_RX5_71 hA.k0 hv44 dX5_isTrack_4 ?_
  refine v_iconst C 1 (by decide) dX5_isTrack_7 ?_
  refine v_isub C dX5_isTrack_8 ?_
  refine v_i2l C dX5_isTrack_9 ?_
  refine v_callSi C (st := []) [.long i.toInt64, .long 0, .long (((nI (cn q 1)) - 1).toInt64)] (c_X5_in l S i.toInt64 0 (((nI (cn q 1)) - 1).toInt64)) ml_RX5_67 ms_yX5_in rfl (Nat.le_of_ble_eq_true rfl) (Nat.le_of_ble_eq_true rfl) (Nat.le_of_ble_eq_true rfl) (Nat.le_of_ble_eq_true rfl) (Nat.le_of_ble_eq_true rfl) dX5_isTrack_10 (fun r u h => ?_) _ rfl
  obtain ⟨rfl, rfl⟩ := h
  exact v_zret C (bI_nar _) hRT (Nat.le_of_ble_eq_true rfl) (Nat.le_of_ble_eq_true rfl) dX5_isTrack_13 ⟨_, rfl, ((in_I 0 (nI (cn q 1) - 1)).trans (bI_iff (tk_I hA.hn))).symm, rfl⟩
set_option maxRecDepth 100000 in
set_option maxHeartbeats 4000000 in
theorem c_X5_of (l : Launch) (S : HS) (am : AM) (n t k : Nat) (ht : t < 60) (hk : k < 9) (hA : NA S am n)  : cM l yX5_of cX5_of 3 (Option.some Jvm.ClassFile.FieldType.int) 2 [.ref (am 0), .int (nI t), .int (nI k)] S (pI fun r u => aI S (am 3) (9 * t + k) = r ∧ S = u) 0 0 := by
  refine cM_intro (by decide +kernel) cd_X5_of (Nat.le_of_ble_eq_true rfl) ?_
  intro pP eE sS mM aA bB tT cC G A C hRT hin
  refine V.lvs (lv2 := [(0, .ref (am 0)), (1, .int (nI t)), (2, .int (nI k))]) rfl ?_
  refine v_aload_n C 0 rfl rfl dX5_of_0 ?_
  refine v_getR C (am 3) fl_RX5_16 hA.k0 hA.r43 dX5_of_1 ?_
  refine v_bipush C 9 (by decide) dX5_of_4 ?_
  refine v_iload_n C 1 rfl rfl dX5_of_6 ?_
  refine v_imul C dX5_of_7 ?_
  refine v_iload_n C 2 rfl rfl dX5_of_8 ?_
  refine v_iadd C dX5_of_9 ?_
  rw [ix9]
  refine v_iald C (aI S (am 3) (9 * t + k)) hA.k3 (by rw [hA.n3]; exact vp_in_nI (by omega) (by decide)) (congrArg _ (nI_clamp (by omega))) dX5_of_10 ?_
  exact v_iret C hRT (Nat.le_of_ble_eq_true rfl) (Nat.le_of_ble_eq_true rfl) dX5_of_11 ⟨_, rfl, rfl, rfl⟩
set_option maxRecDepth 100000 in
set_option maxHeartbeats 4000000 in
theorem c_X5_lays (l : Launch) (S : HS) (x : Int32) (am : AM) (n t k : Nat) (ht : t < 60) (hk : k < 9) (hA : NA S am n)  : cM l yX5_lays cX5_lays 4 (Option.none : Option Jvm.ClassFile.FieldType) 2 [.ref (am 0), .int (nI t), .int (nI k), .int x] S (pV fun u => tI S (am 3) (9 * t + k) x = u) 0 0 := by
  refine cM_intro (by decide +kernel) cd_X5_lays (Nat.le_of_ble_eq_true rfl) ?_
  intro pP eE sS mM aA bB tT cC G A C hRT hin
  refine V.lvs (lv2 := [(0, .ref (am 0)), (1, .int (nI t)), (2, .int (nI k)), (3, .int x)]) rfl ?_
  refine v_aload_n C 0 rfl rfl dX5_lays_0 ?_
  refine v_getR C (am 3) fl_RX5_16 hA.k0 hA.r43 dX5_lays_1 ?_
  refine v_bipush C 9 (by decide) dX5_lays_4 ?_
  refine v_iload_n C 1 rfl rfl dX5_lays_6 ?_
  refine v_imul C dX5_lays_7 ?_
  refine v_iload_n C 2 rfl rfl dX5_lays_8 ?_
  refine v_iadd C dX5_lays_9 ?_
  rw [ix9]
  refine v_iload_n C 3 rfl rfl dX5_lays_10 ?_
  refine v_iastj C (9 * t + k) (nI_clamp (by omega)) hA.k3 (by rw [hA.n3]; exact vp_in_nI (by omega) (by decide)) dX5_lays_11 ?_
  exact v_vret C hRT (Nat.le_of_ble_eq_true rfl) (Nat.le_of_ble_eq_true rfl) dX5_lays_12 ⟨rfl, rfl⟩
