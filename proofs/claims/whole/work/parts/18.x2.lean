def smN (f : Nat → Nat) : Nat → Nat
  | 0 => 0
  | n + 1 => smN f n + f n
def sgP (q : AS) (t : Nat) (x : Int32) : Nat → Bool := fun j => decide (iO (zz q 4 t j) = x)
/-- how many signs x stand in all histories -/
def sgc (q : AS) (x : Int32) : Nat → Nat := smN (fun t => cntP (sgP q t x) (cn q (100 + t)))
theorem sgC_eq {S : HS} {ad : AD} {q : AS} (hV : XV S ad q) {t : Nat} (ht : t < cn q 1) (x : Int32) : cntP (cntC (aI S (ad 7 t)) x 0) (cn q (100 + t)) = cntP (sgP q t x) (cn q (100 + t)) := cntP_cong (fun j hj => by
  unfold cntC sgP
  rw [hV.sg t ht j hj]
  simp)
theorem xAt_O {S : HS} {ad : AD} {q : AS} (hV : XV S ad q) {t : Nat} (ht : t < cn q 1) (time : Int) : xAt S (ad 6 t) (iO time) = iO (ahd q t time 0) := by
  unfold xAt ahd
  rw [show hI S 18 (ad 6 t) = _ from hV.tv t ht 1 (by decide), show hI S 20 (ad 6 t) = _ from hV.tv t ht 3 (by decide), show hI S 17 (ad 6 t) = _ from hV.tv t ht 0 (by decide), iO_sub, iO_mul, iO_add]
theorem yAt_O {S : HS} {ad : AD} {q : AS} (hV : XV S ad q) {t : Nat} (ht : t < cn q 1) (time : Int) : yAt S (ad 6 t) (iO time) = iO (ahd q t time 1) := by
  unfold yAt ahd
  rw [show hI S 19 (ad 6 t) = _ from hV.tv t ht 2 (by decide), show hI S 21 (ad 6 t) = _ from hV.tv t ht 4 (by decide), show hI S 17 (ad 6 t) = _ from hV.tv t ht 0 (by decide), iO_sub, iO_mul, iO_add]
theorem dstF_O {S : HS} {ad : AD} {q : AS} (hV : XV S ad q) (hB : BI q) {r t : Nat} (hr : r < cn q 0) (ht : t < cn q 1) : dstF S (ad 6 t) (ad 4 r) = lO (dst q r t) := by
  have h4 := hB.b0
  have h0 := rsd_bd hB hr ht 0 (by omega)
  have h1 := rsd_bd hB hr ht 1 (by omega)
  have ex : (16 : Int32) * hI S 14 (ad 4 r) - xAt S (ad 6 t) (hI S 13 (ad 4 r)) = iO (rsd q r t 0) := by
    rw [show hI S 14 (ad 4 r) = _ from hV.p r (by omega) 1 (by decide), show hI S 13 (ad 4 r) = _ from hV.p r (by omega) 0 (by decide), xAt_O hV ht, show (16 : Int32) = iO 16 from rfl, iO_mul, iO_sub]
    rfl
  have ey : (16 : Int32) * hI S 15 (ad 4 r) - yAt S (ad 6 t) (hI S 13 (ad 4 r)) = iO (rsd q r t 1) := by
    rw [show hI S 15 (ad 4 r) = _ from hV.p r (by omega) 2 (by decide), show hI S 13 (ad 4 r) = _ from hV.p r (by omega) 0 (by decide), yAt_O hV ht, show (16 : Int32) = iO 16 from rfl, iO_mul, iO_sub]
    rfl
  unfold dstF sqF
  rw [ex, ey, sqF_O (by unfold bd at *; omega) (by unfold bd at *; omega)]
  rfl
set_option maxRecDepth 100000 in
set_option maxHeartbeats 4000000 in
theorem lp_X4_countSigns {l : Launch} {pP : Program} {eE : Env} {sS : State} {mM : MethodId} {aA : Array Value} {bB : List Frame} {tT : Method} {cC : Code} {G : GT} {A : Nat → Prop} {Q : State → Prop}  (S : HS) (ad : AD) (q : AS) (x : Int32) (hA : XA S ad (cn q 1)) (hV : XV S ad q) (hB : BI q)  (C : Cx pP l eE (rmD 4 0 0) sS mM aA bB tT cC cX4_countSigns 5 RX4 G A) (kk : V pP l eE (rmD 4 0 0) sS mM aA bB tT cC 5 G A S 0 0 Q 40 [(0, .ref (ad 0 0)), (1, .int x), (2, .int (nI (sgc q x (cn q 1)))), (3, .int (nI (cn q 1)))] []) : ∀ (N : Nat) (i : Nat), (hN9 : cn q 1 + 1 ≤ i + N) → (hi : i ≤ cn q 1) → V pP l eE (rmD 4 0 0) sS mM aA bB tT cC 5 G A S 0 0 Q 4 [(0, .ref (ad 0 0)), (1, .int x), (2, .int (nI (sgc q x i))), (3, .int (nI i))] [] := by
  intro N
  induction N with
  | zero =>
    intro i hN9 hi
    exact absurd hN9 (by omega)
  | succ N ih =>
    intro i hN9 hi
    have hn6 := hA.hn
    refine v_iload_n C 3 rfl rfl dX4_countSigns_4 ?_
    refine v_aload_n C 0 rfl rfl dX4_countSigns_5 ?_
    refine v_getI C (nI (cn q 1)) fl_RX4_184 hA.k0 hV.v32 dX4_countSigns_6 ?_
    refine v_icmp_ge C 40 (by decide) dX4_countSigns_9 (fun c9 => ?_) (fun c9 => ?_)
    · obtain rfl : i = cn q 1 := by have := nge c9 (by omega); omega
      exact V.sub [0, 1, 2, 3] rfl kk
    · have hlt := nlt c9 (by omega)
      refine v_aload_n C 0 rfl rfl dX4_countSigns_12 ?_
      refine v_iload_n C 3 rfl rfl dX4_countSigns_13 ?_
      refine v_callVq C (st := []) [.int (nI i)] (c_X4_trackAt_y l S ad (cn q 1) i hA hlt) ml_RX4_347 mi_yX4_trackAt hA.k0 (by decide) (by decide +kernel) rfl (Nat.le_of_ble_eq_true rfl) (Nat.le_of_ble_eq_true rfl) (Nat.le_of_ble_eq_true rfl) (Nat.le_of_ble_eq_true rfl) (Nat.le_of_ble_eq_true rfl) dX4_countSigns_14 (fun r u h => ?_) _ rfl
      obtain ⟨rfl, rfl⟩ := h
      refine v_astore C [(4, .ref (ad 6 i)), (0, .ref (ad 0 0)), (1, .int x), (2, .int (nI (sgc q x i))), (3, .int (nI i))] (by decide) rfl dX4_countSigns_17 ?_
      refine v_aload C 0 rfl dX4_countSigns_19 ?_
      refine v_ifnull C dX4_countSigns_21 ?_
      refine v_iload_n C 3 rfl rfl dX4_countSigns_24 ?_
      refine v_aload C 0 rfl dX4_countSigns_25 ?_
      refine v_iconst C 0 (by decide) dX4_countSigns_27 ?_
      refine v_iload_n C 2 rfl rfl dX4_countSigns_28 ?_
      refine v_callVi C (st := [.int (nI (sgc q x i))]) [.int 0, .int x] (c_X3_countSince l S (ad 6 i) (ad 7 i) (cn q (100 + i)) 0 0 x (by decide) (hA.k6 i hlt) (hA.k7 i hlt) (hA.r26 i hlt) (hA.n7 i hlt) (hV.t27 i hlt) (by have := (hB.bh i hlt).1; omega) (by omega)) ml_RX4_333 mi_yX3_countSince (hA.k6 i hlt) (by decide) (by decide +kernel) rfl (Nat.le_of_ble_eq_true rfl) (Nat.le_of_ble_eq_true rfl) (Nat.le_of_ble_eq_true rfl) (Nat.le_of_ble_eq_true rfl) (Nat.le_of_ble_eq_true rfl) dX4_countSigns_29 (fun r u h => ?_) _ rfl
      obtain ⟨rfl, rfl⟩ := h
      refine v_iadd C dX4_countSigns_32 ?_
      rw [sgC_eq hV hlt, nI_add, show sgc q x i + cntP (sgP q i x) (cn q (100 + i)) = sgc q x (i + 1) from rfl]
      refine v_istore_n C [(2, .int (nI (sgc q x (i + 1)))), (4, .ref (ad 6 i)), (0, .ref (ad 0 0)), (1, .int x), (3, .int (nI i))] (by decide) rfl rfl dX4_countSigns_33 ?_
      refine v_iinc C (nI (i + 1)) 4 [(3, .int (nI (i + 1))), (2, .int (nI (sgc q x (i + 1)))), (4, .ref (ad 6 i)), (0, .ref (ad 0 0)), (1, .int x)] rfl (by rw [← nI_1]; rfl) (by decide) rfl dX4_countSigns_34 ?_
      refine v_goto C 4 (by decide) dX4_countSigns_37 ?_
      exact V.sub [3, 4, 1, 0] rfl (ih (i + 1) (by omega) (by omega))
set_option maxRecDepth 100000 in
set_option maxHeartbeats 4000000 in
theorem c_X4_countSigns (l : Launch) (S : HS) (ad : AD) (q : AS) (x : Int32) (hA : XA S ad (cn q 1)) (hV : XV S ad q) (hB : BI q)  : cM l yX4_countSigns cX4_countSigns 5 (Option.some Jvm.ClassFile.FieldType.int) 4 [.ref (ad 0 0), .int x] S (pI fun r u => nI (sgc q x (cn q 1)) = r ∧ S = u) 0 0 := by
  refine cM_intro (by decide +kernel) cd_X4_countSigns (Nat.le_of_ble_eq_true rfl) ?_
  intro pP eE sS mM aA bB tT cC G A C hRT hin
  refine V.lvs (lv2 := [(0, .ref (ad 0 0)), (1, .int x)]) rfl ?_
  refine v_iconst C 0 (by decide) dX4_countSigns_0 ?_
  refine v_istore_n C [(2, .int 0), (0, .ref (ad 0 0)), (1, .int x)] (by decide) rfl rfl dX4_countSigns_1 ?_
  refine v_iconst C 0 (by decide) dX4_countSigns_2 ?_
  refine v_istore_n C [(3, .int 0), (2, .int 0), (0, .ref (ad 0 0)), (1, .int x)] (by decide) rfl rfl dX4_countSigns_3 ?_
  refine V.sub [2, 3, 1, 0] rfl (lp_X4_countSigns S ad q x hA hV hB C ?_ (cn q 1 + 1) 0 (by omega) (by omega))
  refine v_iload_n C 2 rfl rfl dX4_countSigns_40 ?_
  exact v_iret C hRT (Nat.le_of_ble_eq_true rfl) (Nat.le_of_ble_eq_true rfl) dX4_countSigns_41 ⟨_, rfl, rfl, rfl⟩
set_option maxRecDepth 100000 in
set_option maxHeartbeats 4000000 in
theorem c_X4_costOfTaking (l : Launch) (S : HS) (ad : AD) (q : AS) (r t : Nat) (hA : XA S ad (cn q 1)) (hV : XV S ad q) (hB : BI q) (hr : r < cn q 0) (ht : t < cn q 1) : cM l yX4_costOfTaking cX4_costOfTaking 5 (Option.some Jvm.ClassFile.FieldType.long) 8 [.ref (ad 0 0), .ref (ad 4 r), .ref (ad 6 t)] S (pL fun z u => lO (ctk q r t) = z ∧ S = u) 0 0 := by
  refine cM_intro (by decide +kernel) cd_X4_costOfTaking (Nat.le_of_ble_eq_true rfl) ?_
  intro pP eE sS mM aA bB tT cC G A C hRT hin
  refine V.lvs (lv2 := [(0, .ref (ad 0 0)), (1, .ref (ad 4 r)), (2, .ref (ad 6 t))]) rfl ?_
  obtain ⟨hr0, hr1, hr2⟩ := hB.br r hr
  obtain ⟨ht0, ht1, ht2, ht3, ht4⟩ := hB.bt t ht
  have hd0 := dst_bd hB hr ht
  have hg0 := gsq_bd hB
  refine v_aload_n C 1 rfl rfl dX4_costOfTaking_0 ?_
  refine v_getI C (iO (zz q 2 r 0)) fl_RX4_166 (hA.k4 r (by have := hB.b0; omega)) (hV.p r (by have := hB.b0; omega) 0 (by decide)) dX4_costOfTaking_1 ?_
  refine v_aload_n C 2 rfl rfl dX4_costOfTaking_4 ?_
  refine v_getI C (iO (zz q 3 t 0)) fl_RX4_169 (hA.k6 t ht) (hV.tv t ht 0 (by decide)) dX4_costOfTaking_5 ?_
  refine v_icmp_ge C 15 (by decide) dX4_costOfTaking_8 (fun c8 => ?_) (fun c8 => ?_)
  · refine v_aload_n C 2 rfl rfl dX4_costOfTaking_15 ?_
    refine v_aload_n C 1 rfl rfl dX4_costOfTaking_16 ?_
    refine v_callVl C (st := []) [.ref (ad 4 r)] (c_X3_distanceTo l S (ad 6 t) (ad 4 r) (hA.k6 t ht) (hA.k4 r (by have := hB.b0; omega))) ml_RX4_137 mi_yX3_distanceTo (hA.k6 t ht) (by decide) (by decide +kernel) rfl (Nat.le_of_ble_eq_true rfl) (Nat.le_of_ble_eq_true rfl) (Nat.le_of_ble_eq_true rfl) (Nat.le_of_ble_eq_true rfl) (Nat.le_of_ble_eq_true rfl) dX4_costOfTaking_17 (fun r u h => ?_) _ rfl
    obtain ⟨rfl, rfl⟩ := h
    rw [dstF_O hV hB hr ht]
    refine v_lstore_n C [(3, .long (lO (dst q r t))), (0, .ref (ad 0 0)), (1, .ref (ad 4 r)), (2, .ref (ad 6 t))] (by decide) rfl rfl dX4_costOfTaking_20 ?_
    refine v_lload_n C 0 rfl rfl dX4_costOfTaking_21 ?_
    refine v_aload_n C 1 rfl rfl dX4_costOfTaking_22 ?_
    refine v_getI C (iO (zz q 0 0 0)) fl_RX4_34 hA.k0 hV.v34 dX4_costOfTaking_23 ?_
    refine v_callSl C (st := [.long (lO (dst q r t))]) [.int (iO (zz q 0 0 0))] (c_X4_squareOfSixteenths l S (iO (zz q 0 0 0))) ml_RX4_170 ms_yX4_squareOfSixteenths rfl (Nat.le_of_ble_eq_true rfl) (Nat.le_of_ble_eq_true rfl) (Nat.le_of_ble_eq_true rfl) (Nat.le_of_ble_eq_true rfl) (Nat.le_of_ble_eq_true rfl) dX4_costOfTaking_26 (fun r u h => ?_) _ rfl
    obtain ⟨rfl, rfl⟩ := h
    rw [gs_O hB]
    refine v_lcmp C dX4_costOfTaking_29 ?_
    refine v_if_gt C 37 (by decide) dX4_costOfTaking_30 (fun c30 => ?_) (fun c30 => ?_)
    · refine v_ldc2 C kl_RX4_145 dX4_costOfTaking_37 ?_
      exact v_lret C hRT (Nat.le_of_ble_eq_true rfl) (Nat.le_of_ble_eq_true rfl) dX4_costOfTaking_40 ⟨_, rfl, by unfold ctk; rw [if_pos (Or.inr ((lO_lt (by unfold bd at *; omega) (by unfold bd at *; omega) (by unfold bd at *; omega) (by unfold bd at *; omega)).mp ((lg_cmp_gt _ _).mp c30)))]; rfl, rfl⟩
    · refine v_lload_n C 0 rfl rfl dX4_costOfTaking_33 ?_
      refine v_goto C 40 (by decide) dX4_costOfTaking_34 ?_
      exact v_lret C hRT (Nat.le_of_ble_eq_true rfl) (Nat.le_of_ble_eq_true rfl) dX4_costOfTaking_40 ⟨_, rfl, by unfold ctk; rw [if_neg (fun z => z.elim (fun z => absurd ((iO_le (by unfold bd at *; omega) (by unfold bd at *; omega) (by unfold bd at *; omega) (by unfold bd at *; omega)).mp c8) (Int.not_le.mpr z)) (fun z => c30 ((lg_cmp_gt _ _).mpr ((lO_lt (by unfold bd at *; omega) (by unfold bd at *; omega) (by unfold bd at *; omega) (by unfold bd at *; omega)).mpr z))))], rfl⟩
  · refine v_ldc2 C kl_RX4_145 dX4_costOfTaking_11 ?_
    exact v_lret C hRT (Nat.le_of_ble_eq_true rfl) (Nat.le_of_ble_eq_true rfl) dX4_costOfTaking_14 ⟨_, rfl, by unfold ctk; rw [if_pos (Or.inl (Int.not_le.mp (fun z => c8 ((iO_le (by unfold bd at *; omega) (by unfold bd at *; omega) (by unfold bd at *; omega) (by unfold bd at *; omega)).mpr z))))]; rfl, rfl⟩
