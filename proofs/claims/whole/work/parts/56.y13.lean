theorem near_L {q : AS} (hB : BI q) : (256 : Int64) * (iO (zz q 0 0 4)).toInt64 * (iO (zz q 0 0 4)).toInt64 = lO (256 * (zz q 0 0 4 * zz q 0 0 4)) := by
  have := hB.g4
  rw [iO_l (by unfold bd at *; omega) (by unfold bd at *; omega), show (256 : Int64) = lO 256 from rfl, lO_mul, lO_mul, Int.mul_assoc]
theorem dfs_L {a b : Int} : lO a * lO a + lO b * lO b = lO (a * a + b * b) := by rw [lO_mul, lO_mul, lO_add]
theorem mx_bd {a b : Int} (ha : bd a (-20000) 30000) (hb : bd b (-20000) 30000) : bd (mxI a b) (-20000) 40000 := by unfold mxI bd at *; split <;> omega
set_option maxRecDepth 100000 in
set_option maxHeartbeats 4000000 in
theorem c_X5_areNear (l : Launch) (S : HS) (am : AM) (q : AS) (hB : BI q) (hA : NA S am (cn q 1)) (hV : NV S am q) (a b : Nat) (ha : a < cn q 1) (hb : b < cn q 1)  : cM l yX5_areNear cX5_areNear 9 (Option.some Jvm.ClassFile.FieldType.boolean) 6 [.ref (am 0), .int (nI a), .int (nI b)] S (pI fun r u => bI (nrA q a b = true) = r ∧ S = u) 0 0 := by
  refine cM_intro (by decide +kernel) cd_X5_areNear (Nat.le_of_ble_eq_true rfl) ?_
  intro pP eE sS mM aA bB tT cC G A C hRT hin
  refine V.lvs (lv2 := [(0, .ref (am 0)), (1, .int (nI a)), (2, .int (nI b))]) rfl ?_
  obtain ⟨ta0, ta1, ta2, ta3, ta4⟩ := hB.bt a ha
  obtain ⟨tb0, tb1, tb2, tb3, tb4⟩ := hB.bt b hb
  have d0 := dfA_bd hB ha hb 0 (by decide)
  have d1 := dfA_bd hB ha hb 1 (by decide)
  have q0 := sq_bd d0
  have q1 := sq_bd d1
  have hg4 := hB.g4
  have hgs : bd (256 * (zz q 0 0 4 * zz q 0 0 4)) 0 2560000 := near_bd hB
  have ab0 := ab_bd (a := zz q 3 a 3 - zz q 3 b 3) (by unfold bd at *; omega)
  have ab1 := ab_bd (a := zz q 3 a 4 - zz q 3 b 4) (by unfold bd at *; omega)
  have htm := mx_bd ta0 tb0
  refine v_aload_n C 0 rfl rfl dX5_areNear_0 ?_
  refine v_iload_n C 1 rfl rfl dX5_areNear_1 ?_
  refine v_iconst C 0 (by decide) dX5_areNear_2 ?_
  refine v_callVi C (st := []) [.int (nI a), .int 0] (c_X5_of l S am (cn q 1) a 0 (by have := (hA).hn; omega) (by omega) hA) ml_RX5_74 mi_yX5_of hA.k0 (by decide) (by decide +kernel) rfl (Nat.le_of_ble_eq_true rfl) (Nat.le_of_ble_eq_true rfl) (Nat.le_of_ble_eq_true rfl) (Nat.le_of_ble_eq_true rfl) (Nat.le_of_ble_eq_true rfl) dX5_areNear_3 (fun r u h => ?_) _ rfl
  obtain ⟨rfl, rfl⟩ := h
  rw [(hV).m a ha 0 (by omega)]
  refine v_aload_n C 0 rfl rfl dX5_areNear_6 ?_
  refine v_iload_n C 2 rfl rfl dX5_areNear_7 ?_
  refine v_iconst C 0 (by decide) dX5_areNear_8 ?_
  refine v_callVi C (st := [.int (iO (zz q 3 a 0))]) [.int (nI b), .int 0] (c_X5_of l S am (cn q 1) b 0 (by have := (hA).hn; omega) (by omega) hA) ml_RX5_74 mi_yX5_of hA.k0 (by decide) (by decide +kernel) rfl (Nat.le_of_ble_eq_true rfl) (Nat.le_of_ble_eq_true rfl) (Nat.le_of_ble_eq_true rfl) (Nat.le_of_ble_eq_true rfl) (Nat.le_of_ble_eq_true rfl) dX5_areNear_9 (fun r u h => ?_) _ rfl
  obtain ⟨rfl, rfl⟩ := h
  rw [(hV).m b hb 0 (by omega)]
  refine v_max C jm_RX5_173 (Nat.le_of_ble_eq_true rfl) (Nat.le_of_ble_eq_true rfl) (Nat.le_of_ble_eq_true rfl) (Nat.le_of_ble_eq_true rfl) (Nat.le_of_ble_eq_true rfl) dX5_areNear_12 ?_
  rw [show (if (iO (zz q 3 a 0)) < (iO (zz q 3 b 0)) then (iO (zz q 3 b 0)) else (iO (zz q 3 a 0))) = (iO (mxI (zz q 3 a 0) (zz q 3 b 0))) from mx_O ta0 tb0]
  refine v_istore_n C [(3, .int (iO (mxI (zz q 3 a 0) (zz q 3 b 0)))), (0, .ref (am 0)), (1, .int (nI a)), (2, .int (nI b))] (by decide) rfl rfl dX5_areNear_15 ?_
  refine v_aload_n C 1 rfl rfl dX5_areNear_16 ?_
  refine v_iload_n C 2 rfl rfl dX5_areNear_17 ?_
  refine v_iload_n C 0 rfl rfl dX5_areNear_18 ?_
  refine v_iconst C 0 (by decide) dX5_areNear_19 ?_
  refine v_callVl C (st := []) [.int (nI a), .int (iO (mxI (zz q 3 a 0) (zz q 3 b 0))), .int 0] (c_X5_ahead l S am q hB hA hV a ha 0 (by omega) (mxI (zz q 3 a 0) (zz q 3 b 0)) htm) ml_RX5_114 mi_yX5_ahead hA.k0 (by decide) (by decide +kernel) rfl (Nat.le_of_ble_eq_true rfl) (Nat.le_of_ble_eq_true rfl) (Nat.le_of_ble_eq_true rfl) (Nat.le_of_ble_eq_true rfl) (Nat.le_of_ble_eq_true rfl) dX5_areNear_20 (fun r u h => ?_) _ rfl
  obtain ⟨rfl, rfl⟩ := h
  refine v_aload_n C 1 rfl rfl dX5_areNear_23 ?_
  refine v_iload_n C 3 rfl rfl dX5_areNear_24 ?_
  refine v_iload_n C 0 rfl rfl dX5_areNear_25 ?_
  refine v_iconst C 0 (by decide) dX5_areNear_26 ?_
  refine v_callVl C (st := [.long (lO (ahd q a (mxI (zz q 3 a 0) (zz q 3 b 0)) 0))]) [.int (nI b), .int (iO (mxI (zz q 3 a 0) (zz q 3 b 0))), .int 0] (c_X5_ahead l S am q hB hA hV b hb 0 (by omega) (mxI (zz q 3 a 0) (zz q 3 b 0)) htm) ml_RX5_114 mi_yX5_ahead hA.k0 (by decide) (by decide +kernel) rfl (Nat.le_of_ble_eq_true rfl) (Nat.le_of_ble_eq_true rfl) (Nat.le_of_ble_eq_true rfl) (Nat.le_of_ble_eq_true rfl) (Nat.le_of_ble_eq_true rfl) dX5_areNear_27 (fun r u h => ?_) _ rfl
  obtain ⟨rfl, rfl⟩ := h
  refine v_lsub C dX5_areNear_30 ?_
  rw [show ((lO (ahd q a (mxI (zz q 3 a 0) (zz q 3 b 0)) 0)) - (lO (ahd q b (mxI (zz q 3 a 0) (zz q 3 b 0)) 0))) = (lO (dfA q a b 0)) from lO_sub _ _]
  refine v_lstore C [(4, .long (lO (dfA q a b 0))), (3, .int (iO (mxI (zz q 3 a 0) (zz q 3 b 0)))), (0, .ref (am 0)), (1, .int (nI a)), (2, .int (nI b))] (by decide) rfl dX5_areNear_31 ?_
  refine v_aload_n C 2 rfl rfl dX5_areNear_33 ?_
  refine v_iload_n C 3 rfl rfl dX5_areNear_34 ?_
  refine v_iload_n C 1 rfl rfl dX5_areNear_35 ?_
  refine v_iconst C 1 (by decide) dX5_areNear_36 ?_
  refine v_callVl C (st := []) [.int (nI a), .int (iO (mxI (zz q 3 a 0) (zz q 3 b 0))), .int 1] (c_X5_ahead l S am q hB hA hV a ha 1 (by omega) (mxI (zz q 3 a 0) (zz q 3 b 0)) htm) ml_RX5_114 mi_yX5_ahead hA.k0 (by decide) (by decide +kernel) rfl (Nat.le_of_ble_eq_true rfl) (Nat.le_of_ble_eq_true rfl) (Nat.le_of_ble_eq_true rfl) (Nat.le_of_ble_eq_true rfl) (Nat.le_of_ble_eq_true rfl) dX5_areNear_37 (fun r u h => ?_) _ rfl
  obtain ⟨rfl, rfl⟩ := h
  refine v_aload_n C 2 rfl rfl dX5_areNear_40 ?_
  refine v_iload_n C 4 rfl rfl dX5_areNear_41 ?_
  refine v_iload_n C 1 rfl rfl dX5_areNear_42 ?_
  refine v_iconst C 1 (by decide) dX5_areNear_43 ?_
  refine v_callVl C (st := [.long (lO (ahd q a (mxI (zz q 3 a 0) (zz q 3 b 0)) 1))]) [.int (nI b), .int (iO (mxI (zz q 3 a 0) (zz q 3 b 0))), .int 1] (c_X5_ahead l S am q hB hA hV b hb 1 (by omega) (mxI (zz q 3 a 0) (zz q 3 b 0)) htm) ml_RX5_114 mi_yX5_ahead hA.k0 (by decide) (by decide +kernel) rfl (Nat.le_of_ble_eq_true rfl) (Nat.le_of_ble_eq_true rfl) (Nat.le_of_ble_eq_true rfl) (Nat.le_of_ble_eq_true rfl) (Nat.le_of_ble_eq_true rfl) dX5_areNear_44 (fun r u h => ?_) _ rfl
  obtain ⟨rfl, rfl⟩ := h
  refine v_lsub C dX5_areNear_47 ?_
  rw [show ((lO (ahd q a (mxI (zz q 3 a 0) (zz q 3 b 0)) 1)) - (lO (ahd q b (mxI (zz q 3 a 0) (zz q 3 b 0)) 1))) = (lO (dfA q a b 1)) from lO_sub _ _]
  refine v_lstore C [(6, .long (lO (dfA q a b 1))), (4, .long (lO (dfA q a b 0))), (3, .int (iO (mxI (zz q 3 a 0) (zz q 3 b 0)))), (0, .ref (am 0)), (1, .int (nI a)), (2, .int (nI b))] (by decide) rfl dX5_areNear_48 ?_
  refine v_aload_n C 3 rfl rfl dX5_areNear_50 ?_
  refine v_iload_n C 4 rfl rfl dX5_areNear_51 ?_
  refine v_iconst C 3 (by decide) dX5_areNear_52 ?_
  refine v_callVi C (st := []) [.int (nI a), .int 3] (c_X5_of l S am (cn q 1) a 3 (by have := (hA).hn; omega) (by omega) hA) ml_RX5_74 mi_yX5_of hA.k0 (by decide) (by decide +kernel) rfl (Nat.le_of_ble_eq_true rfl) (Nat.le_of_ble_eq_true rfl) (Nat.le_of_ble_eq_true rfl) (Nat.le_of_ble_eq_true rfl) (Nat.le_of_ble_eq_true rfl) dX5_areNear_53 (fun r u h => ?_) _ rfl
  obtain ⟨rfl, rfl⟩ := h
  rw [(hV).m a ha 3 (by omega)]
  refine v_aload_n C 3 rfl rfl dX5_areNear_56 ?_
  refine v_iload_n C 5 rfl rfl dX5_areNear_57 ?_
  refine v_iconst C 3 (by decide) dX5_areNear_58 ?_
  refine v_callVi C (st := [.int (iO (zz q 3 a 3))]) [.int (nI b), .int 3] (c_X5_of l S am (cn q 1) b 3 (by have := (hA).hn; omega) (by omega) hA) ml_RX5_74 mi_yX5_of hA.k0 (by decide) (by decide +kernel) rfl (Nat.le_of_ble_eq_true rfl) (Nat.le_of_ble_eq_true rfl) (Nat.le_of_ble_eq_true rfl) (Nat.le_of_ble_eq_true rfl) (Nat.le_of_ble_eq_true rfl) dX5_areNear_59 (fun r u h => ?_) _ rfl
  obtain ⟨rfl, rfl⟩ := h
  rw [(hV).m b hb 3 (by omega)]
  refine v_isub C dX5_areNear_62 ?_
  rw [show ((iO (zz q 3 a 3)) - (iO (zz q 3 b 3))) = (iO (zz q 3 a 3 - zz q 3 b 3)) from iO_sub _ _]
  refine v_abs C jm_RX5_175 (Nat.le_of_ble_eq_true rfl) (Nat.le_of_ble_eq_true rfl) (Nat.le_of_ble_eq_true rfl) (Nat.le_of_ble_eq_true rfl) (Nat.le_of_ble_eq_true rfl) dX5_areNear_63 ?_
  rw [show (if 0 ≤ (iO (zz q 3 a 3 - zz q 3 b 3)) then (iO (zz q 3 a 3 - zz q 3 b 3)) else 0 - (iO (zz q 3 a 3 - zz q 3 b 3))) = (iO (ab (zz q 3 a 3 - zz q 3 b 3))) from ab_O (by unfold bd at *; omega)]
  refine v_aload_n C 3 rfl rfl dX5_areNear_66 ?_
  refine v_iload_n C 4 rfl rfl dX5_areNear_67 ?_
  refine v_iconst C 4 (by decide) dX5_areNear_68 ?_
  refine v_callVi C (st := [.int (iO (ab (zz q 3 a 3 - zz q 3 b 3)))]) [.int (nI a), .int 4] (c_X5_of l S am (cn q 1) a 4 (by have := (hA).hn; omega) (by omega) hA) ml_RX5_74 mi_yX5_of hA.k0 (by decide) (by decide +kernel) rfl (Nat.le_of_ble_eq_true rfl) (Nat.le_of_ble_eq_true rfl) (Nat.le_of_ble_eq_true rfl) (Nat.le_of_ble_eq_true rfl) (Nat.le_of_ble_eq_true rfl) dX5_areNear_69 (fun r u h => ?_) _ rfl
  obtain ⟨rfl, rfl⟩ := h
  rw [(hV).m a ha 4 (by omega)]
  refine v_aload_n C 3 rfl rfl dX5_areNear_72 ?_
  refine v_iload_n C 5 rfl rfl dX5_areNear_73 ?_
  refine v_iconst C 4 (by decide) dX5_areNear_74 ?_
  refine v_callVi C (st := [.int (iO (zz q 3 a 4)), .int (iO (ab (zz q 3 a 3 - zz q 3 b 3)))]) [.int (nI b), .int 4] (c_X5_of l S am (cn q 1) b 4 (by have := (hA).hn; omega) (by omega) hA) ml_RX5_74 mi_yX5_of hA.k0 (by decide) (by decide +kernel) rfl (Nat.le_of_ble_eq_true rfl) (Nat.le_of_ble_eq_true rfl) (Nat.le_of_ble_eq_true rfl) (Nat.le_of_ble_eq_true rfl) (Nat.le_of_ble_eq_true rfl) dX5_areNear_75 (fun r u h => ?_) _ rfl
  obtain ⟨rfl, rfl⟩ := h
  rw [(hV).m b hb 4 (by omega)]
  refine v_isub C dX5_areNear_78 ?_
  rw [show ((iO (zz q 3 a 4)) - (iO (zz q 3 b 4))) = (iO (zz q 3 a 4 - zz q 3 b 4)) from iO_sub _ _]
  refine v_abs C jm_RX5_175 (Nat.le_of_ble_eq_true rfl) (Nat.le_of_ble_eq_true rfl) (Nat.le_of_ble_eq_true rfl) (Nat.le_of_ble_eq_true rfl) (Nat.le_of_ble_eq_true rfl) dX5_areNear_79 ?_
  rw [show (if 0 ≤ (iO (zz q 3 a 4 - zz q 3 b 4)) then (iO (zz q 3 a 4 - zz q 3 b 4)) else 0 - (iO (zz q 3 a 4 - zz q 3 b 4))) = (iO (ab (zz q 3 a 4 - zz q 3 b 4))) from ab_O (by unfold bd at *; omega)]
  refine v_iadd C dX5_areNear_82 ?_
  rw [show ((iO (ab (zz q 3 a 3 - zz q 3 b 3))) + (iO (ab (zz q 3 a 4 - zz q 3 b 4)))) = (iO (ab (zz q 3 a 3 - zz q 3 b 3) + ab (zz q 3 a 4 - zz q 3 b 4))) from iO_add _ _]
  refine v_istore C [(8, .int (iO (ab (zz q 3 a 3 - zz q 3 b 3) + ab (zz q 3 a 4 - zz q 3 b 4)))), (6, .long (lO (dfA q a b 1))), (4, .long (lO (dfA q a b 0))), (3, .int (iO (mxI (zz q 3 a 0) (zz q 3 b 0)))), (0, .ref (am 0)), (1, .int (nI a)), (2, .int (nI b))] (by decide) rfl dX5_areNear_83 ?_
  refine v_lload C 2 rfl dX5_areNear_85 ?_
  refine v_lload C 2 rfl dX5_areNear_87 ?_
  refine v_lmul C dX5_areNear_89 ?_
  refine v_lload C 1 rfl dX5_areNear_90 ?_
  refine v_lload C 1 rfl dX5_areNear_92 ?_
  refine v_lmul C dX5_areNear_94 ?_
  refine v_ladd C dX5_areNear_95 ?_
  rw [show (((lO (dfA q a b 0)) * (lO (dfA q a b 0))) + ((lO (dfA q a b 1)) * (lO (dfA q a b 1)))) = (lO (dfA q a b 0 * dfA q a b 0 + dfA q a b 1 * dfA q a b 1)) from dfs_L]
  refine v_ldc2 C kl_RX5_121 dX5_areNear_96 ?_
  refine v_aload_n C 4 rfl rfl dX5_areNear_99 ?_
  refine v_getI C (iO (zz q 0 0 4)) fl_RX5_50 hA.k0 hV.v55 dX5_areNear_100 ?_
  refine v_i2l C dX5_areNear_103 ?_
  refine v_lmul C dX5_areNear_104 ?_
  refine v_aload_n C 4 rfl rfl dX5_areNear_105 ?_
  refine v_getI C (iO (zz q 0 0 4)) fl_RX5_50 hA.k0 hV.v55 dX5_areNear_106 ?_
  refine v_i2l C dX5_areNear_109 ?_
  refine v_lmul C dX5_areNear_110 ?_
  rw [show ((256 * ((iO (zz q 0 0 4)).toInt64)) * ((iO (zz q 0 0 4)).toInt64)) = (lO (256 * (zz q 0 0 4 * zz q 0 0 4))) from near_L hB]
  refine v_lcmp C dX5_areNear_111 ?_
  refine v_if_gt C 126 (by decide) dX5_areNear_112 (fun c112 => ?_) (fun c112 => ?_)
  · refine v_iconst C 0 (by decide) dX5_areNear_126 ?_
    exact v_zret C rfl hRT (Nat.le_of_ble_eq_true rfl) (Nat.le_of_ble_eq_true rfl) dX5_areNear_127 ⟨_, rfl, bI0 (fun z => by have := of_decide_eq_true z; unfold bd at *; have h2 := (lg_cmp_gt _ _).mp c112; rw [lO_lt (by omega) (by omega) (by omega) (by omega)] at h2; omega), rfl⟩
  · refine v_iload C 0 rfl dX5_areNear_115 ?_
    refine v_bipush C 16 (by decide) dX5_areNear_117 ?_
    refine v_icmp_gt C 126 (by decide) dX5_areNear_119 (fun c119 => ?_) (fun c119 => ?_)
    · refine v_iconst C 0 (by decide) dX5_areNear_126 ?_
      exact v_zret C rfl hRT (Nat.le_of_ble_eq_true rfl) (Nat.le_of_ble_eq_true rfl) dX5_areNear_127 ⟨_, rfl, bI0 (fun z => by have := of_decide_eq_true z; unfold bd at *; have h2 := (iO_lt (a := 16) (by decide) (by decide) (by omega) (by omega)).mp c119; omega), rfl⟩
    · refine v_iconst C 1 (by decide) dX5_areNear_122 ?_
      refine v_goto C 127 (by decide) dX5_areNear_123 ?_
      exact v_zret C rfl hRT (Nat.le_of_ble_eq_true rfl) (Nat.le_of_ble_eq_true rfl) dX5_areNear_127 ⟨_, rfl, bI1 (decide_eq_true ⟨not_gt_l q0 q1 hgs c112, not_gt_i ab0 ab1 c119⟩), rfl⟩
theorem any_t {p : Nat → Bool} {n : Nat} (h : anyP p n = true) : anyP p (n + 1) = true := by
  show (anyP p n || p n) = true
  rw [h]; rfl
theorem any_n {p : Nat → Bool} {n : Nat} (h : ¬ anyP p n = true) : anyP p (n + 1) = p n := by
  show (anyP p n || p n) = p n
  rw [Bool.eq_false_iff.mpr h]; rfl
set_option maxRecDepth 100000 in
set_option maxHeartbeats 4000000 in
theorem lp_X5_goesThere {l : Launch} {pP : Program} {eE : Env} {sS : State} {mM : MethodId} {aA : Array Value} {bB : List Frame} {tT : Method} {cC : Code} {G : GT} {A : Nat → Prop} {Q : State → Prop}  (S : HS) (am : AM) (n nr t : Nat) (hA : NA S am n) (h50 : hI S 50 (am 0) = nI nr) (h4 : nr ≤ 4)  (C : Cx pP l eE (rmD 2 0 0) sS mM aA bB tT cC cX5_goesThere 4 RX5 G A) (kk : V pP l eE (rmD 2 0 0) sS mM aA bB tT cC 4 G A S 0 0 Q 38 [(0, .ref (am 0)), (1, .int (nI t)), (2, .int (bI (anyP (fun r => decide (aI S (am 10) r = nI t)) nr = true))), (3, .int (nI nr))] []) : ∀ (N : Nat) (r : Nat), (hN9 : nr + 1 ≤ r + N) → (hi : r ≤ nr) → V pP l eE (rmD 2 0 0) sS mM aA bB tT cC 4 G A S 0 0 Q 4 [(0, .ref (am 0)), (1, .int (nI t)), (2, .int (bI (anyP (fun r => decide (aI S (am 10) r = nI t)) r = true))), (3, .int (nI r))] [] := by
  intro N
  induction N with
  | zero =>
    intro r hN9 hi
    exact absurd hN9 (by omega)
  | succ N ih =>
    intro r hN9 hi
    refine v_iload_n C 3 rfl rfl dX5_goesThere_4 ?_
    refine v_aload_n C 0 rfl rfl dX5_goesThere_5 ?_
    refine v_getI C (nI nr) fl_RX5_111 hA.k0 h50 dX5_goesThere_6 ?_
    refine v_icmp_ge C 38 (by decide) dX5_goesThere_9 (fun c9 => ?_) (fun c9 => ?_)
    · obtain rfl : r = nr := by have := nge c9 (by omega); omega
      exact V.sub [0, 1, 2, 3] rfl kk
    · have hlt : r < nr := nlt c9 (by omega)
      refine v_iload_n C 2 rfl rfl dX5_goesThere_12 ?_
      refine v_if_ne C 26 (by decide) dX5_goesThere_13 (fun c13 => ?_) (fun c13 => ?_)
      · refine v_iconst C 1 (by decide) dX5_goesThere_26 ?_
        refine v_goto C 31 (by decide) dX5_goesThere_27 ?_
        refine v_istore_n C [(2, .int 1), (0, .ref (am 0)), (1, .int (nI t)), (3, .int (nI r))] (by decide) rfl rfl dX5_goesThere_31 ?_
        refine v_iinc C (nI (r + 1)) 3 [(3, .int (nI (r + 1))), (2, .int 1), (0, .ref (am 0)), (1, .int (nI t))] rfl (by rw [← nI_1]; rfl) (by decide) rfl dX5_goesThere_32 ?_
        refine v_goto C 4 (by decide) dX5_goesThere_35 ?_
        have e1 := any_t (bI_n0 c13)
        refine V.sub [2, 3, 1, 0] rfl ?_
        have key := ih (r + 1) (by omega) hlt
        rw [bI1 e1] at key
        exact key
      · refine v_aload_n C 0 rfl rfl dX5_goesThere_16 ?_
        refine v_getR C (am 10) fl_RX5_56 hA.k0 hA.r59 dX5_goesThere_17 ?_
        refine v_iload_n C 3 rfl rfl dX5_goesThere_20 ?_
        refine v_iald C (aI S (am 10) r) hA.k10 (vpi hA.n10 (vp_in_nI (by omega) (by decide))) (congrArg _ (nI_clamp (by omega))) dX5_goesThere_21 ?_
        refine v_iload_n C 1 rfl rfl dX5_goesThere_22 ?_
        refine v_icmp_ne C 30 (by decide) dX5_goesThere_23 (fun c23 => ?_) (fun c23 => ?_)
        · refine v_iconst C 0 (by decide) dX5_goesThere_30 ?_
          refine v_istore_n C [(2, .int 0), (0, .ref (am 0)), (1, .int (nI t)), (3, .int (nI r))] (by decide) rfl rfl dX5_goesThere_31 ?_
          refine v_iinc C (nI (r + 1)) 3 [(3, .int (nI (r + 1))), (2, .int 0), (0, .ref (am 0)), (1, .int (nI t))] rfl (by rw [← nI_1]; rfl) (by decide) rfl dX5_goesThere_32 ?_
          refine v_goto C 4 (by decide) dX5_goesThere_35 ?_
          have e1 := any_n (bI_e0 c13)
          refine V.sub [2, 3, 1, 0] rfl ?_
          have key := ih (r + 1) (by omega) hlt
          rw [bI0 (by rw [e1]; exact fun z => c23 (of_decide_eq_true z))] at key
          exact key
        · refine v_iconst C 1 (by decide) dX5_goesThere_26 ?_
          refine v_goto C 31 (by decide) dX5_goesThere_27 ?_
          refine v_istore_n C [(2, .int 1), (0, .ref (am 0)), (1, .int (nI t)), (3, .int (nI r))] (by decide) rfl rfl dX5_goesThere_31 ?_
          refine v_iinc C (nI (r + 1)) 3 [(3, .int (nI (r + 1))), (2, .int 1), (0, .ref (am 0)), (1, .int (nI t))] rfl (by rw [← nI_1]; rfl) (by decide) rfl dX5_goesThere_32 ?_
          refine v_goto C 4 (by decide) dX5_goesThere_35 ?_
          have e1 := any_n (bI_e0 c13)
          refine V.sub [2, 3, 1, 0] rfl ?_
          have key := ih (r + 1) (by omega) hlt
          rw [bI1 (e1.trans (decide_eq_true c23))] at key
          exact key
set_option maxRecDepth 100000 in
set_option maxHeartbeats 4000000 in
theorem c_X5_goesThere (l : Launch) (S : HS) (am : AM) (n nr t : Nat) (hA : NA S am n) (h50 : hI S 50 (am 0) = nI nr) (h4 : nr ≤ 4)  : cM l yX5_goesThere cX5_goesThere 4 (Option.some Jvm.ClassFile.FieldType.boolean) 2 [.ref (am 0), .int (nI t)] S (pI fun z u => (bI (anyP (fun r => decide (aI S (am 10) r = nI t)) nr = true)) = z ∧ S = u) 0 0 := by
  refine cM_intro (by decide +kernel) cd_X5_goesThere (Nat.le_of_ble_eq_true rfl) ?_
  intro pP eE sS mM aA bB tT cC G A C hRT hin
  refine V.lvs (lv2 := [(0, .ref (am 0)), (1, .int (nI t))]) rfl ?_
  refine v_iconst C 0 (by decide) dX5_goesThere_0 ?_
  refine v_istore_n C [(2, .int 0), (0, .ref (am 0)), (1, .int (nI t))] (by decide) rfl rfl dX5_goesThere_1 ?_
  refine v_iconst C 0 (by decide) dX5_goesThere_2 ?_
  refine v_istore_n C [(3, .int 0), (2, .int 0), (0, .ref (am 0)), (1, .int (nI t))] (by decide) rfl rfl dX5_goesThere_3 ?_
  refine V.sub [2, 3, 1, 0] rfl (lp_X5_goesThere S am n nr t hA h50 h4 C ?_ (nr + 1) 0 (by omega) (by omega))
  refine v_iload_n C 2 rfl rfl dX5_goesThere_38 ?_
  exact v_zret C (bI_nar _) hRT (Nat.le_of_ble_eq_true rfl) (Nat.le_of_ble_eq_true rfl) dX5_goesThere_39 ⟨_, rfl, rfl, rfl⟩
