theorem dst_L {q : AS} {r t : Nat} : lO (rsd q r t 0) * lO (rsd q r t 0) + lO (rsd q r t 1) * lO (rsd q r t 1) = lO (dst q r t) := by
  rw [lO_mul, lO_mul, lO_add]
  rfl
theorem gsq_L {q : AS} (hB : BI q) : (256 : Int64) * (iO (zz q 0 0 0)).toInt64 * (iO (zz q 0 0 0)).toInt64 = lO (gsq q) := by
  have := hB.g0
  rw [iO_l (by unfold bd at *; omega) (by unfold bd at *; omega), show (256 : Int64) = lO 256 from rfl, lO_mul, lO_mul, Int.mul_assoc]
  rfl
set_option maxRecDepth 100000 in
set_option maxHeartbeats 4000000 in
theorem c_X5_distanceOf (l : Launch) (S : HS) (am : AM) (q : AS) (hB : BI q) (hA : NA S am (cn q 1)) (hV : NV S am q) (r : Nat) (hr : r < cn q 0) (t : Nat) (ht : t < cn q 1)  : cM l yX5_distanceOf cX5_distanceOf 3 (Option.some Jvm.ClassFile.FieldType.long) 8 [.ref (am 0), .int (nI r), .int (nI t)] S (pL fun z u => lO (dst q r t) = z ∧ S = u) 0 0 := by
  refine cM_intro (by decide +kernel) cd_X5_distanceOf (Nat.le_of_ble_eq_true rfl) ?_
  intro pP eE sS mM aA bB tT cC G A C hRT hin
  refine V.lvs (lv2 := [(0, .ref (am 0)), (1, .int (nI r)), (2, .int (nI t))]) rfl ?_
  refine v_aload_n C 0 rfl rfl dX5_distanceOf_0 ?_
  refine v_iload_n C 1 rfl rfl dX5_distanceOf_1 ?_
  refine v_iload_n C 2 rfl rfl dX5_distanceOf_2 ?_
  refine v_iconst C 0 (by decide) dX5_distanceOf_3 ?_
  refine v_callVl C (st := []) [.int (nI r), .int (nI t), .int 0] (c_X5_residual l S am q hB hA hV r hr t ht 0 (by omega)) ml_RX5_118 mi_yX5_residual hA.k0 (by decide) (by decide +kernel) rfl (Nat.le_of_ble_eq_true rfl) (Nat.le_of_ble_eq_true rfl) (Nat.le_of_ble_eq_true rfl) (Nat.le_of_ble_eq_true rfl) (Nat.le_of_ble_eq_true rfl) dX5_distanceOf_4 (fun r u h => ?_) _ rfl
  obtain ⟨rfl, rfl⟩ := h
  refine v_aload_n C 0 rfl rfl dX5_distanceOf_7 ?_
  refine v_iload_n C 1 rfl rfl dX5_distanceOf_8 ?_
  refine v_iload_n C 2 rfl rfl dX5_distanceOf_9 ?_
  refine v_iconst C 0 (by decide) dX5_distanceOf_10 ?_
  refine v_callVl C (st := [.long (lO (rsd q r t 0))]) [.int (nI r), .int (nI t), .int 0] (c_X5_residual l S am q hB hA hV r hr t ht 0 (by omega)) ml_RX5_118 mi_yX5_residual hA.k0 (by decide) (by decide +kernel) rfl (Nat.le_of_ble_eq_true rfl) (Nat.le_of_ble_eq_true rfl) (Nat.le_of_ble_eq_true rfl) (Nat.le_of_ble_eq_true rfl) (Nat.le_of_ble_eq_true rfl) dX5_distanceOf_11 (fun r u h => ?_) _ rfl
  obtain ⟨rfl, rfl⟩ := h
  refine v_lmul C dX5_distanceOf_14 ?_
  refine v_aload_n C 0 rfl rfl dX5_distanceOf_15 ?_
  refine v_iload_n C 1 rfl rfl dX5_distanceOf_16 ?_
  refine v_iload_n C 2 rfl rfl dX5_distanceOf_17 ?_
  refine v_iconst C 1 (by decide) dX5_distanceOf_18 ?_
  refine v_callVl C (st := [.long ((lO (rsd q r t 0)) * (lO (rsd q r t 0)))]) [.int (nI r), .int (nI t), .int 1] (c_X5_residual l S am q hB hA hV r hr t ht 1 (by omega)) ml_RX5_118 mi_yX5_residual hA.k0 (by decide) (by decide +kernel) rfl (Nat.le_of_ble_eq_true rfl) (Nat.le_of_ble_eq_true rfl) (Nat.le_of_ble_eq_true rfl) (Nat.le_of_ble_eq_true rfl) (Nat.le_of_ble_eq_true rfl) dX5_distanceOf_19 (fun r u h => ?_) _ rfl
  obtain ⟨rfl, rfl⟩ := h
  refine v_aload_n C 0 rfl rfl dX5_distanceOf_22 ?_
  refine v_iload_n C 1 rfl rfl dX5_distanceOf_23 ?_
  refine v_iload_n C 2 rfl rfl dX5_distanceOf_24 ?_
  refine v_iconst C 1 (by decide) dX5_distanceOf_25 ?_
  refine v_callVl C (st := [.long (lO (rsd q r t 1)), .long ((lO (rsd q r t 0)) * (lO (rsd q r t 0)))]) [.int (nI r), .int (nI t), .int 1] (c_X5_residual l S am q hB hA hV r hr t ht 1 (by omega)) ml_RX5_118 mi_yX5_residual hA.k0 (by decide) (by decide +kernel) rfl (Nat.le_of_ble_eq_true rfl) (Nat.le_of_ble_eq_true rfl) (Nat.le_of_ble_eq_true rfl) (Nat.le_of_ble_eq_true rfl) (Nat.le_of_ble_eq_true rfl) dX5_distanceOf_26 (fun r u h => ?_) _ rfl
  obtain ⟨rfl, rfl⟩ := h
  refine v_lmul C dX5_distanceOf_29 ?_
  refine v_ladd C dX5_distanceOf_30 ?_
  rw [dst_L]
  exact v_lret C hRT (Nat.le_of_ble_eq_true rfl) (Nat.le_of_ble_eq_true rfl) dX5_distanceOf_31 ⟨_, rfl, rfl, rfl⟩
set_option maxRecDepth 100000 in
set_option maxHeartbeats 4000000 in
theorem c_X5_gateSquare (l : Launch) (S : HS) (am : AM) (q : AS) (hB : BI q) (hA : NA S am (cn q 1)) (hV : NV S am q)  : cM l yX5_gateSquare cX5_gateSquare 1 (Option.some Jvm.ClassFile.FieldType.long) 2 [.ref (am 0)] S (pL fun z u => lO (gsq q) = z ∧ S = u) 0 0 := by
  refine cM_intro (by decide +kernel) cd_X5_gateSquare (Nat.le_of_ble_eq_true rfl) ?_
  intro pP eE sS mM aA bB tT cC G A C hRT hin
  refine V.lvs (lv2 := [(0, .ref (am 0))]) rfl ?_
  refine v_ldc2 C kl_RX5_121 dX5_gateSquare_0 ?_
  refine v_aload_n C 0 rfl rfl dX5_gateSquare_3 ?_
  refine v_getI C (iO (zz q 0 0 0)) fl_RX5_37 hA.k0 hV.v51 dX5_gateSquare_4 ?_
  refine v_i2l C dX5_gateSquare_7 ?_
  refine v_lmul C dX5_gateSquare_8 ?_
  refine v_aload_n C 0 rfl rfl dX5_gateSquare_9 ?_
  refine v_getI C (iO (zz q 0 0 0)) fl_RX5_37 hA.k0 hV.v51 dX5_gateSquare_10 ?_
  refine v_i2l C dX5_gateSquare_13 ?_
  refine v_lmul C dX5_gateSquare_14 ?_
  rw [gsq_L hB]
  exact v_lret C hRT (Nat.le_of_ble_eq_true rfl) (Nat.le_of_ble_eq_true rfl) dX5_gateSquare_15 ⟨_, rfl, rfl, rfl⟩
theorem rt_lt {q : AS} (hB : BI q) {r t : Nat} (hr : r < cn q 0) (ht : t < cn q 1) : iO (zz q 2 r 0) < iO (zz q 3 t 0) ↔ zz q 2 r 0 < zz q 3 t 0 := by
  have h1 := (hB.br r hr).1
  have h2 := (hB.bt t ht).1
  exact iO_lt (by unfold bd at *; omega) (by unfold bd at *; omega) (by unfold bd at *; omega) (by unfold bd at *; omega)
theorem dg_gt {q : AS} (hB : BI q) {r t : Nat} (hr : r < cn q 0) (ht : t < cn q 1) : 0 < lg_cmp (lO (dst q r t)) (lO (gsq q)) ↔ gsq q < dst q r t := by
  have h1 := gsq_bd hB
  have h2 := dst_bd hB hr ht
  rw [lg_cmp_gt]
  exact lO_lt (by unfold bd at *; omega) (by unfold bd at *; omega) (by unfold bd at *; omega) (by unfold bd at *; omega)
theorem ctk_no {q : AS} {r t : Nat} (h : zz q 2 r 0 < zz q 3 t 0 ∨ gsq q < dst q r t) : ¬ 0 ≤ ctk q r t := by
  unfold ctk
  rw [if_pos h]
  decide
theorem ctk_ys {q : AS} (hB : BI q) {r t : Nat} (hr : r < cn q 0) (ht : t < cn q 1) (h : ¬ zz q 2 r 0 < zz q 3 t 0) (h2 : ¬ gsq q < dst q r t) : 0 ≤ ctk q r t := by
  unfold ctk
  rw [if_neg (fun z => z.elim h h2)]
  exact (dst_bd hB hr ht).1
set_option maxRecDepth 100000 in
set_option maxHeartbeats 4000000 in
theorem c_X5_takes (l : Launch) (S : HS) (am : AM) (q : AS) (hB : BI q) (hA : NA S am (cn q 1)) (hV : NV S am q) (r : Nat) (hr : r < cn q 0) (t : Nat) (ht : t < cn q 1)  : cM l yX5_takes cX5_takes 3 (Option.some Jvm.ClassFile.FieldType.boolean) 10 [.ref (am 0), .int (nI r), .int (nI t)] S (pI fun z u => bI (zz q 3 t 7 = 0 ∧ 0 ≤ ctk q r t) = z ∧ S = u) 0 0 := by
  refine cM_intro (by decide +kernel) cd_X5_takes (Nat.le_of_ble_eq_true rfl) ?_
  intro pP eE sS mM aA bB tT cC G A C hRT hin
  refine V.lvs (lv2 := [(0, .ref (am 0)), (1, .int (nI r)), (2, .int (nI t))]) rfl ?_
  have h04 := hB.b0
  refine v_aload_n C 0 rfl rfl dX5_takes_0 ?_
  refine v_iload_n C 2 rfl rfl dX5_takes_1 ?_
  refine v_callVi C (st := []) [.int (nI t)] (c_X5_isLive l S am q hB hA hV t ht) ml_RX5_123 mi_yX5_isLive hA.k0 (by decide) (by decide +kernel) rfl (Nat.le_of_ble_eq_true rfl) (Nat.le_of_ble_eq_true rfl) (Nat.le_of_ble_eq_true rfl) (Nat.le_of_ble_eq_true rfl) (Nat.le_of_ble_eq_true rfl) dX5_takes_2 (fun r u h => ?_) _ rfl
  obtain ⟨rfl, rfl⟩ := h
  refine v_if_eq C 41 (by decide) dX5_takes_5 (fun c5 => ?_) (fun c5 => ?_)
  · refine v_iconst C 0 (by decide) dX5_takes_41 ?_
    exact v_zret C rfl hRT (Nat.le_of_ble_eq_true rfl) (Nat.le_of_ble_eq_true rfl) dX5_takes_42 ⟨_, rfl, bI0 (fun z => bI_e0 c5 z.1), rfl⟩
  · refine v_aload_n C 0 rfl rfl dX5_takes_8 ?_
    refine v_getR C (am 6) fl_RX5_28 hA.k0 hA.r47 dX5_takes_9 ?_
    refine v_iload_n C 1 rfl rfl dX5_takes_12 ?_
    refine v_iald C (iO (zz q 2 r 0)) hA.k6 (by rw [hA.n6]; exact vp_in_nI (by omega) (by decide)) ((congrArg _ (nI_clamp (by omega))).trans (hV.t6 r (by omega))) dX5_takes_13 ?_
    refine v_aload_n C 0 rfl rfl dX5_takes_14 ?_
    refine v_iload_n C 2 rfl rfl dX5_takes_15 ?_
    refine v_iconst C 0 (by decide) dX5_takes_16 ?_
    refine v_callVi C (st := [.int (iO (zz q 2 r 0))]) [.int (nI t), .int 0] (c_X5_of l S am (cn q 1) t 0 (by have := (hA).hn; omega) (by omega) hA) ml_RX5_74 mi_yX5_of hA.k0 (by decide) (by decide +kernel) rfl (Nat.le_of_ble_eq_true rfl) (Nat.le_of_ble_eq_true rfl) (Nat.le_of_ble_eq_true rfl) (Nat.le_of_ble_eq_true rfl) (Nat.le_of_ble_eq_true rfl) dX5_takes_17 (fun r u h => ?_) _ rfl
    obtain ⟨rfl, rfl⟩ := h
    rw [(hV).m t ht 0 (by omega)]
    refine v_icmp_lt C 41 (by decide) dX5_takes_20 (fun c20 => ?_) (fun c20 => ?_)
    · refine v_iconst C 0 (by decide) dX5_takes_41 ?_
      exact v_zret C rfl hRT (Nat.le_of_ble_eq_true rfl) (Nat.le_of_ble_eq_true rfl) dX5_takes_42 ⟨_, rfl, bI0 (fun z => ctk_no (Or.inl ((rt_lt hB hr ht).mp c20)) z.2), rfl⟩
    · refine v_aload_n C 0 rfl rfl dX5_takes_23 ?_
      refine v_iload_n C 1 rfl rfl dX5_takes_24 ?_
      refine v_iload_n C 2 rfl rfl dX5_takes_25 ?_
      refine v_callVl C (st := []) [.int (nI r), .int (nI t)] (c_X5_distanceOf l S am q hB hA hV r hr t ht) ml_RX5_126 mi_yX5_distanceOf hA.k0 (by decide) (by decide +kernel) rfl (Nat.le_of_ble_eq_true rfl) (Nat.le_of_ble_eq_true rfl) (Nat.le_of_ble_eq_true rfl) (Nat.le_of_ble_eq_true rfl) (Nat.le_of_ble_eq_true rfl) dX5_takes_26 (fun r u h => ?_) _ rfl
      obtain ⟨rfl, rfl⟩ := h
      refine v_aload_n C 0 rfl rfl dX5_takes_29 ?_
      refine v_callVl C (st := [.long (lO (dst q r t))]) [] (c_X5_gateSquare l S am q hB hA hV) ml_RX5_130 mi_yX5_gateSquare hA.k0 (by decide) (by decide +kernel) rfl (Nat.le_of_ble_eq_true rfl) (Nat.le_of_ble_eq_true rfl) (Nat.le_of_ble_eq_true rfl) (Nat.le_of_ble_eq_true rfl) (Nat.le_of_ble_eq_true rfl) dX5_takes_30 (fun r u h => ?_) _ rfl
      obtain ⟨rfl, rfl⟩ := h
      refine v_lcmp C dX5_takes_33 ?_
      refine v_if_gt C 41 (by decide) dX5_takes_34 (fun c34 => ?_) (fun c34 => ?_)
      · refine v_iconst C 0 (by decide) dX5_takes_41 ?_
        exact v_zret C rfl hRT (Nat.le_of_ble_eq_true rfl) (Nat.le_of_ble_eq_true rfl) dX5_takes_42 ⟨_, rfl, bI0 (fun z => ctk_no (Or.inr ((dg_gt hB hr ht).mp c34)) z.2), rfl⟩
      · refine v_iconst C 1 (by decide) dX5_takes_37 ?_
        refine v_goto C 42 (by decide) dX5_takes_38 ?_
        exact v_zret C rfl hRT (Nat.le_of_ble_eq_true rfl) (Nat.le_of_ble_eq_true rfl) dX5_takes_42 ⟨_, rfl, bI1 ⟨bI_n0 c5, ctk_ys hB hr ht (fun z => c20 ((rt_lt hB hr ht).mpr z)) (fun z => c34 ((dg_gt hB hr ht).mpr z))⟩, rfl⟩
set_option maxRecDepth 100000 in
set_option maxHeartbeats 4000000 in
theorem lp_X5_live {l : Launch} {pP : Program} {eE : Env} {sS : State} {mM : MethodId} {aA : Array Value} {bB : List Frame} {tT : Method} {cC : Code} {G : GT} {A : Nat → Prop} {Q : State → Prop}  (S : HS) (am : AM) (q : AS) (hB : BI q) (hA : NA S am (cn q 1)) (hV : NV S am q)  (C : Cx pP l eE (rmD 6 0 0) sS mM aA bB tT cC cX5_live 3 RX5 G A) (kk : V pP l eE (rmD 6 0 0) sS mM aA bB tT cC 3 G A S 0 0 Q 34 [(0, .ref (am 0)), (1, .int (nI (cntP (liveP q) (cn q 1)))), (2, .int (nI (cn q 1)))] []) : ∀ (N : Nat) (t : Nat), (hN9 : cn q 1 + 1 ≤ t + N) → (hi : t ≤ cn q 1) → V pP l eE (rmD 6 0 0) sS mM aA bB tT cC 3 G A S 0 0 Q 4 [(0, .ref (am 0)), (1, .int (nI (cntP (liveP q) t))), (2, .int (nI t))] [] := by
  intro N
  induction N with
  | zero =>
    intro t hN9 hi
    exact absurd hN9 (by omega)
  | succ N ih =>
    intro t hN9 hi
    have hn6 := hA.hn
    refine v_iload_n C 2 rfl rfl dX5_live_4 ?_
    refine v_aload_n C 0 rfl rfl dX5_live_5 ?_
    refine v_getI C (nI (cn q 1)) fl_RX5_71 hA.k0 hV.v44 dX5_live_6 ?_
    refine v_icmp_ge C 34 (by decide) dX5_live_9 (fun c9 => ?_) (fun c9 => ?_)
    · obtain rfl : t = cn q 1 := by have := nge c9 (by omega); omega
      exact V.sub [0, 1, 2] rfl kk
    · have ht : t < cn q 1 := nlt c9 (by omega)
      refine v_iload_n C 1 rfl rfl dX5_live_12 ?_
      refine v_aload_n C 0 rfl rfl dX5_live_13 ?_
      refine v_iload_n C 2 rfl rfl dX5_live_14 ?_
      refine v_callVi C (st := [.int (nI (cntP (liveP q) t))]) [.int (nI t)] (c_X5_isLive l S am q hB hA hV t ht) ml_RX5_123 mi_yX5_isLive hA.k0 (by decide) (by decide +kernel) rfl (Nat.le_of_ble_eq_true rfl) (Nat.le_of_ble_eq_true rfl) (Nat.le_of_ble_eq_true rfl) (Nat.le_of_ble_eq_true rfl) (Nat.le_of_ble_eq_true rfl) dX5_live_15 (fun r u h => ?_) _ rfl
      obtain ⟨rfl, rfl⟩ := h
      refine v_if_eq C 25 (by decide) dX5_live_18 (fun c18 => ?_) (fun c18 => ?_)
      · refine v_iconst C 0 (by decide) dX5_live_25 ?_
        refine v_iadd C dX5_live_26 ?_
        rw [show ((nI (cntP (liveP q) t)) + 0) = nI (cntP (liveP q) t) from nI_add' _ 0]
        refine v_istore_n C [(1, .int (nI (cntP (liveP q) t))), (0, .ref (am 0)), (2, .int (nI t))] (by decide) rfl rfl dX5_live_27 ?_
        refine v_iinc C (nI (t + 1)) 2 [(2, .int (nI (t + 1))), (1, .int (nI (cntP (liveP q) t))), (0, .ref (am 0))] rfl (by rw [← nI_1]; rfl) (by decide) rfl dX5_live_28 ?_
        refine v_goto C 4 (by decide) dX5_live_31 ?_
        have e1 := cntP_f (p := liveP q) (n := t) (decide_eq_false (bI_e0 c18))
        refine V.sub [2, 1, 0] rfl ?_
        have key := ih (t + 1) (by omega) ht
        rw [e1] at key
        exact key
      · refine v_iconst C 1 (by decide) dX5_live_21 ?_
        refine v_goto C 26 (by decide) dX5_live_22 ?_
        refine v_iadd C dX5_live_26 ?_
        rw [show ((nI (cntP (liveP q) t)) + 1) = nI (cntP (liveP q) t + 1) from nI_add' _ 1]
        refine v_istore_n C [(1, .int (nI (cntP (liveP q) t + 1))), (0, .ref (am 0)), (2, .int (nI t))] (by decide) rfl rfl dX5_live_27 ?_
        refine v_iinc C (nI (t + 1)) 2 [(2, .int (nI (t + 1))), (1, .int (nI (cntP (liveP q) t + 1))), (0, .ref (am 0))] rfl (by rw [← nI_1]; rfl) (by decide) rfl dX5_live_28 ?_
        refine v_goto C 4 (by decide) dX5_live_31 ?_
        have e1 := cntP_t (p := liveP q) (n := t) (decide_eq_true (bI_n0 c18))
        refine V.sub [2, 1, 0] rfl ?_
        have key := ih (t + 1) (by omega) ht
        rw [e1] at key
        exact key
set_option maxRecDepth 100000 in
set_option maxHeartbeats 4000000 in
theorem c_X5_live (l : Launch) (S : HS) (am : AM) (q : AS) (hB : BI q) (hA : NA S am (cn q 1)) (hV : NV S am q)  : cM l yX5_live cX5_live 3 (Option.some Jvm.ClassFile.FieldType.int) 6 [.ref (am 0)] S (pI fun r u => nI (lcn q) = r ∧ S = u) 0 0 := by
  refine cM_intro (by decide +kernel) cd_X5_live (Nat.le_of_ble_eq_true rfl) ?_
  intro pP eE sS mM aA bB tT cC G A C hRT hin
  refine V.lvs (lv2 := [(0, .ref (am 0))]) rfl ?_
  refine v_iconst C 0 (by decide) dX5_live_0 ?_
  refine v_istore_n C [(1, .int 0), (0, .ref (am 0))] (by decide) rfl rfl dX5_live_1 ?_
  refine v_iconst C 0 (by decide) dX5_live_2 ?_
  refine v_istore_n C [(2, .int 0), (1, .int 0), (0, .ref (am 0))] (by decide) rfl rfl dX5_live_3 ?_
  refine V.sub [2, 1, 0] rfl (lp_X5_live S am q hB hA hV C ?_ (cn q 1 + 1) 0 (by omega) (by omega))
  refine v_iload_n C 1 rfl rfl dX5_live_34 ?_
  exact v_iret C hRT (Nat.le_of_ble_eq_true rfl) (Nat.le_of_ble_eq_true rfl) dX5_live_35 ⟨_, rfl, rfl, rfl⟩
