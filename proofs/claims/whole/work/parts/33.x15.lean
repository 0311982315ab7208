/-- a corrected time -/
def crt (q : AS) (j : Nat) (t : Int) : Int := if cn q (10 + j) = 0 then t else if cn q (10 + j) = 1 then zz q 1 j 3 + (t - zz q 1 j 2) else zz q 1 j 3 + ((t - zz q 1 j 2) * (zz q 1 j 3 - zz q 1 j 1)) / (zz q 1 j 2 - zz q 1 j 0)
theorem ediv_bd {a b M : Int} (hb : 0 < b) (h : bd a (-(M * b)) (M * b)) : bd (a / b) (-M) M := by
  unfold bd at *
  refine ⟨(Int.le_ediv_iff_mul_le hb).mpr (by rw [Int.neg_mul]; exact h.1), ?_⟩
  have := (Int.ediv_le_iff_le_mul hb (x := a) (y := M)).mpr (by omega)
  exact this
theorem crt_ex {q : AS} (hB : BI q) {j : Nat} (hj : j < 4) {t : Int} (ht : bd t 0 9999) (h2 : cn q (10 + j) = 2) : 0 < zz q 1 j 2 - zz q 1 j 0 ∧ bd ((t - zz q 1 j 2) * (zz q 1 j 3 - zz q 1 j 1)) (-(19998 * (zz q 1 j 2 - zz q 1 j 0))) (19998 * (zz q 1 j 2 - zz q 1 j 0)) ∧ bd (zz q 1 j 2 - zz q 1 j 0) 0 9999 := by
  obtain ⟨h0, h1, h3, h4, h5⟩ := hB.be j hj h2
  obtain ⟨l1, l2⟩ := hB.bl j hj (by omega)
  have hd : 0 < zz q 1 j 2 - zz q 1 j 0 := by omega
  have ha : bd (t - zz q 1 j 2) (-9999) 9999 := by unfold bd at *; omega
  have hb : bd (zz q 1 j 3 - zz q 1 j 1) (-(2 * (zz q 1 j 2 - zz q 1 j 0))) (2 * (zz q 1 j 2 - zz q 1 j 0)) := by unfold bd at *; omega
  have hm := mul_bd ha hb
  refine ⟨hd, ?_, by unfold bd at *; omega⟩
  have e : 9999 * (2 * (zz q 1 j 2 - zz q 1 j 0)) = 19998 * (zz q 1 j 2 - zz q 1 j 0) := by omega
  rw [e] at hm
  exact hm
theorem crt_bd {q : AS} (hB : BI q) {j : Nat} (hj : j < 4) {t : Int} (ht : bd t 0 9999) : bd (crt q j t) (-20000) 30000 := by
  have hc := hB.bc j hj
  unfold crt
  by_cases h0 : cn q (10 + j) = 0
  · rw [if_pos h0]; unfold bd at *; omega
  · rw [if_neg h0]
    obtain ⟨l1, l2⟩ := hB.bl j hj (by omega)
    by_cases h1 : cn q (10 + j) = 1
    · rw [if_pos h1]; unfold bd at *; omega
    · rw [if_neg h1]
      obtain ⟨e1, e2, e3⟩ := crt_ex hB hj ht (by omega)
      have := ediv_bd e1 e2
      unfold bd at *
      omega
theorem crt_O {S : HS} {ad : AD} {q : AS} (hV : XV S ad q) (hB : BI q) {j : Nat} (hj : j < 4) {t : Int32} (ht : isTm t) : (if hI S 0 (ad 2 j) = 0 then t else if ¬ hI S 0 (ad 2 j) = 1 ∧ 0 < hI S 3 (ad 2 j) - hI S 1 (ad 2 j) then hI S 4 (ad 2 j) + fdv ((t - hI S 3 (ad 2 j)) * (hI S 4 (ad 2 j) - hI S 2 (ad 2 j))) (hI S 3 (ad 2 j) - hI S 1 (ad 2 j)) else hI S 4 (ad 2 j) + (t - hI S 3 (ad 2 j))) = iO (crt q j t.toInt) := by
  have hc := hB.bc j hj
  have tb := tm_bd ht
  have et : t = iO t.toInt := (iO_of t).symm
  have w0 := hV.c0 j hj
  have w1 : hI S 1 (ad 2 j) = iO (zz q 1 j 0) := hV.c1 j hj 0 (by decide)
  have w2 : hI S 2 (ad 2 j) = iO (zz q 1 j 1) := hV.c1 j hj 1 (by decide)
  have w3 : hI S 3 (ad 2 j) = iO (zz q 1 j 2) := hV.c1 j hj 2 (by decide)
  have w4 : hI S 4 (ad 2 j) = iO (zz q 1 j 3) := hV.c1 j hj 3 (by decide)
  rw [w0, w1, w2, w3, w4]
  unfold crt
  by_cases h0 : cn q (10 + j) = 0
  · rw [if_pos ((nI_iff0 (by omega)).mpr h0), if_pos h0]; exact et
  · rw [if_neg (fun z => h0 ((nI_iff0 (by omega)).mp z)), if_neg h0]
    by_cases h1 : cn q (10 + j) = 1
    · rw [if_pos h1, if_neg (fun z => z.1 (by rw [h1]; rfl))]
      rw [show t - iO (zz q 1 j 2) = iO (t.toInt - zz q 1 j 2) from by rw [← iO_sub, iO_of], iO_add]
    · rw [if_neg h1]
      obtain ⟨e1, e2, e3⟩ := crt_ex hB hj tb (by omega)
      have h2 : cn q (10 + j) = 2 := by omega
      rw [if_pos ⟨by rw [h2]; decide, by rw [iO_sub, show (0 : Int32) = iO 0 from rfl, iO_lt (by decide) (by decide) (by unfold bd at *; omega) (by unfold bd at *; omega)]; exact e1⟩]
      rw [show t - iO (zz q 1 j 2) = iO (t.toInt - zz q 1 j 2) from by rw [← iO_sub, iO_of], iO_sub, iO_sub, iO_mul, fdv_O (by unfold bd at *; omega) (by unfold bd at *; omega) (by unfold bd at *; omega) e1, iO_add]
theorem XV.set {S : HS} {ad : AD} {q : AS} {k : Nat} {x : Int32} (hA : XA S ad (cn q 1)) (hV : XV S ad q) (hk : k < 5) : XV (sI S (34 + k) (ad 0 0) x) ad (zs q 0 0 k x.toInt) := by
  have r1 : ∀ f, f ≠ 34 + k → ∀ a, hI (sI S (34 + k) (ad 0 0) x) f a = hI S f a := fun f h1 a => hI_sI2 (fun z => h1 z.1)
  have z1 : ∀ i, i ≠ 0 → ∀ j' k', zz (zs q 0 0 k x.toInt) i j' k' = zz q i j' k' := fun i hi j' k' => by rw [zz_zs, if_neg (fun z => hi z.1)]
  have st : ∀ m, m < 5 → hI S (34 + m) (ad 0 0) = iO (zz q 0 0 m) → hI (sI S (34 + k) (ad 0 0) x) (34 + m) (ad 0 0) = iO (zz (zs q 0 0 k x.toInt) 0 0 m) := fun m hm h => by
    by_cases e : m = k
    · subst e
      rw [zz_zs, if_pos ⟨rfl, rfl, rfl⟩, iO_of]
      exact hI_sI1
    · rw [r1 _ (by omega), zz_zs, if_neg (fun z => e z.2.2)]
      exact h
  exact ⟨by rw [r1 _ (by omega)]; exact hV.v30, by rw [r1 _ (by omega)]; exact hV.v32, by rw [r1 _ (by omega)]; exact hV.v39, by rw [r1 _ (by omega)]; exact hV.v40, st 0 (by decide) hV.v34, st 1 (by decide) hV.v35, st 2 (by decide) hV.v36, st 3 (by decide) hV.v37, st 4 (by decide) hV.v38,
    fun i hi => by rw [r1 _ (by omega)]; exact hV.c0 i hi, fun i hi k' hk' => by rw [r1 _ (by omega), z1 1 (by decide)]; exact hV.c1 i hi k' hk', fun i hi k' hk' => by rw [r1 _ (by omega), z1 2 (by decide)]; exact hV.p i hi k' hk', fun i hi => by rw [r1 _ (by omega)]; exact hV.t16 i hi, fun i hi k' hk' => by rw [r1 _ (by omega), z1 3 (by decide)]; exact hV.tv i hi k' hk', fun i hi => by rw [r1 _ (by omega), z1 3 (by decide)]; exact hV.t24 i hi, fun i hi => by rw [r1 _ (by omega), z1 3 (by decide), z1 3 (by decide)]; exact hV.t25 i hi, fun i hi => by rw [r1 _ (by omega)]; exact hV.t27 i hi, fun i hi j hj => by rw [z1 4 (by decide)]; exact hV.sg i hi j hj⟩
theorem XA.I {S : HS} {ad : AD} {n f a : Nat} {x : Int32} (h : XA S ad n) : XA (sI S f a x) ad n := h.of rfl rfl rfl rfl
/-- within: of an int -/
def isIn (a lo hi : Int32) : Prop := ¬ a < lo ∧ ¬ hi < a
theorem isIn_bd {a lo hi : Int32} (h : isIn a lo hi) : bd a.toInt lo.toInt hi.toInt := by
  obtain ⟨h1, h2⟩ := h
  rw [Int32.lt_iff_toInt_lt] at h1 h2
  unfold bd
  omega
theorem set_BI {q : AS} (hB : BI q) {k : Nat} {v : Int} (h : (k = 0 → bd v 1 500) ∧ (k = 1 → bd v 1 16) ∧ (k = 2 → bd v 0 16) ∧ (k = 3 → bd v 1 9) ∧ (k = 4 → bd v 0 100)) : BI (zs q 0 0 k v) := by
  have e : ∀ m, zz (zs q 0 0 k v) 0 0 m = if m = k then v else zz q 0 0 m := fun m => by
    rw [zz_zs]
    by_cases c : m = k
    · rw [if_pos ⟨rfl, rfl, c⟩, if_pos c]
    · rw [if_neg (fun z => c z.2.2), if_neg c]
  have z1 : ∀ i, i ≠ 0 → ∀ j' k', zz (zs q 0 0 k v) i j' k' = zz q i j' k' := fun i hi j' k' => by rw [zz_zs, if_neg (fun z => hi z.1)]
  have eL : liveP (zs q 0 0 k v) = liveP q := funext fun t => by unfold liveP; rw [z1 3 (by decide)]
  refine ⟨hB.b0, hB.b1, hB.bc, fun i hi h => by rw [z1 1 (by decide), z1 1 (by decide)]; exact hB.bl i hi h, fun i hi h => by rw [z1 1 (by decide), z1 1 (by decide), z1 1 (by decide), z1 1 (by decide)]; exact hB.be i hi h, fun r hr => by rw [z1 2 (by decide), z1 2 (by decide), z1 2 (by decide)]; exact hB.br r hr, fun t ht => by rw [z1 3 (by decide), z1 3 (by decide), z1 3 (by decide), z1 3 (by decide), z1 3 (by decide)]; exact hB.bt t ht, fun t ht => by rw [z1 3 (by decide)]; exact hB.bs t ht, ?_, ?_, ?_, ?_, ?_, by rw [eL]; exact hB.bv, hB.bh⟩
  · rw [e]; split; exact h.1 (by omega); exact hB.g0
  · rw [e]; split; exact h.2.1 (by omega); exact hB.g1
  · rw [e]; split; exact h.2.2.1 (by omega); exact hB.g2
  · rw [e]; split; exact h.2.2.2.1 (by omega); exact hB.g3
  · rw [e]; split; exact h.2.2.2.2 (by omega); exact hB.g4
set_option maxRecDepth 100000 in
set_option maxHeartbeats 4000000 in
theorem c_X4_correctedTime (l : Launch) (hlf : l.stackTraces = false) (S : HS) (ad : AD) (q : AS) (hB : BI q) (hA : XA S ad (cn q 1)) (hV : XV S ad q) (i t : Int32) : cX l yX4_correctedTime cX4_correctedTime 4 (Option.some Jvm.ClassFile.FieldType.int) 12 [.ref (ad 0 0), .int i, .int t] S (pI fun r u => ∃ j, j < 4 ∧ i = nI j ∧ isTm t ∧ S = u ∧ iO (crt q j t.toInt) = r) (fun E u => S = u ∧ ((E = eIO ∧ ¬ isSn i) ∨ (E = eIA ∧ ∃ j, j < 4 ∧ i = nI j ∧ ¬ isTm t))) 2 12 := by
  refine cX_intro (by decide +kernel) cd_X4_correctedTime (Nat.le_of_ble_eq_true rfl) ?_
  intro pP eE sS mM aA bB tT cC G A C hRT hnt
  refine V.lvs (lv2 := [(0, .ref (ad 0 0)), (1, .int i), (2, .int t)]) rfl ?_
  refine v_aload_n C 0 rfl rfl dX4_correctedTime_0 ?_
  refine v_iload_n C 1 rfl rfl dX4_correctedTime_1 ?_
  refine v_xcallVq C (st := []) [.int i] (c_X4_clockOf l hlf S ad (cn q 1) i hA) ml_RX4_52 mi_yX4_clockOf hA.k0 (by decide) (by decide +kernel) rfl (Nat.le_of_ble_eq_true rfl) (Nat.le_of_ble_eq_true rfl) (Nat.le_of_ble_eq_true rfl) (Nat.le_of_ble_eq_true rfl) (Nat.le_of_ble_eq_true rfl) dX4_correctedTime_2 (fun E u h => ?_) (fun r u h => ?_) _ rfl
  · obtain ⟨rfl, rfl, hx⟩ := h
    exact vx_end C hnt (Nat.le_of_ble_eq_true rfl) (Nat.le_of_ble_eq_true rfl) ⟨rfl, Or.inl ⟨rfl, sn_not hx⟩⟩
  obtain ⟨j, hj, rfl, rfl, rfl⟩ := h
  refine v_astore_n C [(3, .ref (ad 2 j)), (0, .ref (ad 0 0)), (1, .int (nI j)), (2, .int t)] (by decide) rfl rfl dX4_correctedTime_5 ?_
  refine v_iload_n C 3 rfl rfl dX4_correctedTime_6 ?_
  refine v_callSi C (st := []) [.int t] (c_X4_isSensorTime l S t) ml_RX4_56 ms_yX4_isSensorTime rfl (Nat.le_of_ble_eq_true rfl) (Nat.le_of_ble_eq_true rfl) (Nat.le_of_ble_eq_true rfl) (Nat.le_of_ble_eq_true rfl) (Nat.le_of_ble_eq_true rfl) dX4_correctedTime_7 (fun r u h => ?_) _ rfl
  obtain ⟨rfl, rfl⟩ := h
  refine v_xcallSv C (st := []) [.int (bI (¬ t < 0 ∧ ¬ 9999 < t))] (c_X4_refuseUnless l hlf S (bI (¬ t < 0 ∧ ¬ 9999 < t))) ml_RX4_60 ms_yX4_refuseUnless rfl (Nat.le_of_ble_eq_true rfl) (Nat.le_of_ble_eq_true rfl) (Nat.le_of_ble_eq_true rfl) (Nat.le_of_ble_eq_true rfl) (Nat.le_of_ble_eq_true rfl) dX4_correctedTime_10 (fun E u h => ?_) (fun u h => ?_) _ rfl
  · obtain ⟨rfl, rfl, hx⟩ := h
    exact vx_end C hnt (Nat.le_of_ble_eq_true rfl) (Nat.le_of_ble_eq_true rfl) ⟨rfl, Or.inr ⟨rfl, j, hj, rfl, fun z => bI_e0 hx z⟩⟩
  obtain ⟨rfl, hok⟩ := h
  refine v_aload_n C 0 rfl rfl dX4_correctedTime_13 ?_
  refine v_iload_n C 3 rfl rfl dX4_correctedTime_14 ?_
  refine v_callVi C (st := []) [.int t] (c_X0_putRight l S (ad 2 j) t (hA.k2 j hj)) ml_RX4_75 mi_yX0_putRight (hA.k2 j hj) (by decide) (by decide +kernel) rfl (Nat.le_of_ble_eq_true rfl) (Nat.le_of_ble_eq_true rfl) (Nat.le_of_ble_eq_true rfl) (Nat.le_of_ble_eq_true rfl) (Nat.le_of_ble_eq_true rfl) dX4_correctedTime_15 (fun r u h => ?_) _ rfl
  obtain ⟨rfl, rfl⟩ := h
  rw [crt_O hV hB hj ((bI_n0 hok : ¬ t < 0 ∧ ¬ 9999 < t))]
  exact v_xiret C hRT (Nat.le_of_ble_eq_true rfl) (Nat.le_of_ble_eq_true rfl) dX4_correctedTime_18 ⟨_, rfl, j, hj, rfl, (bI_n0 hok : ¬ t < 0 ∧ ¬ 9999 < t), rfl, rfl⟩
set_option maxRecDepth 100000 in
set_option maxHeartbeats 4000000 in
theorem c_X4_setGate (l : Launch) (hlf : l.stackTraces = false) (S : HS) (ad : AD) (q : AS) (hB : BI q) (hA : XA S ad (cn q 1)) (hV : XV S ad q) (x : Int32) : cX l yX4_setGate cX4_setGate 3 (Option.some Jvm.ClassFile.FieldType.int) 10 [.ref (ad 0 0), .int x] S (pI fun r u => isIn x 1 500 ∧ XA u ad (cn q 1) ∧ XV u ad (zs q 0 0 0 x.toInt) ∧ iO (zz q 0 0 0) = r) (fun E u => E = eIA ∧ S = u ∧ ¬ isIn x 1 500) 1 6 := by
  refine cX_intro (by decide +kernel) cd_X4_setGate (Nat.le_of_ble_eq_true rfl) ?_
  intro pP eE sS mM aA bB tT cC G A C hRT hnt
  refine V.lvs (lv2 := [(0, .ref (ad 0 0)), (1, .int x)]) rfl ?_
  refine v_iload_n C 1 rfl rfl dX4_setGate_0 ?_
  refine v_iconst C 1 (by decide) dX4_setGate_1 ?_
  refine v_sipush C 500 (by decide) dX4_setGate_2 ?_
  refine v_callSi C (st := []) [.int x, .int 1, .int 500] (c_X4_isWithin l S x 1 500) ml_RX4_86 ms_yX4_isWithin rfl (Nat.le_of_ble_eq_true rfl) (Nat.le_of_ble_eq_true rfl) (Nat.le_of_ble_eq_true rfl) (Nat.le_of_ble_eq_true rfl) (Nat.le_of_ble_eq_true rfl) dX4_setGate_5 (fun r u h => ?_) _ rfl
  obtain ⟨rfl, rfl⟩ := h
  refine v_xcallSv C (st := []) [.int (bI (¬ x < 1 ∧ ¬ 500 < x))] (c_X4_refuseUnless l hlf S (bI (¬ x < 1 ∧ ¬ 500 < x))) ml_RX4_60 ms_yX4_refuseUnless rfl (Nat.le_of_ble_eq_true rfl) (Nat.le_of_ble_eq_true rfl) (Nat.le_of_ble_eq_true rfl) (Nat.le_of_ble_eq_true rfl) (Nat.le_of_ble_eq_true rfl) dX4_setGate_8 (fun E u h => ?_) (fun u h => ?_) _ rfl
  · obtain ⟨rfl, rfl, hx⟩ := h
    exact vx_end C hnt (Nat.le_of_ble_eq_true rfl) (Nat.le_of_ble_eq_true rfl) ⟨rfl, rfl, fun z => bI_e0 hx z⟩
  obtain ⟨rfl, hok⟩ := h
  refine v_aload_n C 0 rfl rfl dX4_setGate_11 ?_
  refine v_getI C (iO (zz q 0 0 0)) fl_RX4_34 hA.k0 hV.v34 dX4_setGate_12 ?_
  refine v_istore_n C [(2, .int (iO (zz q 0 0 0))), (0, .ref (ad 0 0)), (1, .int x)] (by decide) rfl rfl dX4_setGate_15 ?_
  refine v_aload_n C 1 rfl rfl dX4_setGate_16 ?_
  refine v_iload_n C 2 rfl rfl dX4_setGate_17 ?_
  refine v_putI C fl_RX4_34 hA.k0 rfl rfl dX4_setGate_18 ?_
  refine v_iload_n C 0 rfl rfl dX4_setGate_21 ?_
  exact v_xiret C hRT (Nat.le_of_ble_eq_true rfl) (Nat.le_of_ble_eq_true rfl) dX4_setGate_22 ⟨_, rfl, (bI_n0 hok : ¬ x < 1 ∧ ¬ 500 < x), hA.I, XV.set (k := 0) hA hV (by decide), rfl⟩
set_option maxRecDepth 100000 in
set_option maxHeartbeats 4000000 in
theorem c_X4_setLimit (l : Launch) (hlf : l.stackTraces = false) (S : HS) (ad : AD) (q : AS) (hB : BI q) (hA : XA S ad (cn q 1)) (hV : XV S ad q) (x : Int32) : cX l yX4_setLimit cX4_setLimit 3 (Option.some Jvm.ClassFile.FieldType.int) 10 [.ref (ad 0 0), .int x] S (pI fun r u => isIn x 1 9 ∧ XA u ad (cn q 1) ∧ XV u ad (zs q 0 0 3 x.toInt) ∧ iO (zz q 0 0 3) = r) (fun E u => E = eIA ∧ S = u ∧ ¬ isIn x 1 9) 1 6 := by
  refine cX_intro (by decide +kernel) cd_X4_setLimit (Nat.le_of_ble_eq_true rfl) ?_
  intro pP eE sS mM aA bB tT cC G A C hRT hnt
  refine V.lvs (lv2 := [(0, .ref (ad 0 0)), (1, .int x)]) rfl ?_
  refine v_iload_n C 1 rfl rfl dX4_setLimit_0 ?_
  refine v_iconst C 1 (by decide) dX4_setLimit_1 ?_
  refine v_bipush C 9 (by decide) dX4_setLimit_2 ?_
  refine v_callSi C (st := []) [.int x, .int 1, .int 9] (c_X4_isWithin l S x 1 9) ml_RX4_86 ms_yX4_isWithin rfl (Nat.le_of_ble_eq_true rfl) (Nat.le_of_ble_eq_true rfl) (Nat.le_of_ble_eq_true rfl) (Nat.le_of_ble_eq_true rfl) (Nat.le_of_ble_eq_true rfl) dX4_setLimit_4 (fun r u h => ?_) _ rfl
  obtain ⟨rfl, rfl⟩ := h
  refine v_xcallSv C (st := []) [.int (bI (¬ x < 1 ∧ ¬ 9 < x))] (c_X4_refuseUnless l hlf S (bI (¬ x < 1 ∧ ¬ 9 < x))) ml_RX4_60 ms_yX4_refuseUnless rfl (Nat.le_of_ble_eq_true rfl) (Nat.le_of_ble_eq_true rfl) (Nat.le_of_ble_eq_true rfl) (Nat.le_of_ble_eq_true rfl) (Nat.le_of_ble_eq_true rfl) dX4_setLimit_7 (fun E u h => ?_) (fun u h => ?_) _ rfl
  · obtain ⟨rfl, rfl, hx⟩ := h
    exact vx_end C hnt (Nat.le_of_ble_eq_true rfl) (Nat.le_of_ble_eq_true rfl) ⟨rfl, rfl, fun z => bI_e0 hx z⟩
  obtain ⟨rfl, hok⟩ := h
  refine v_aload_n C 0 rfl rfl dX4_setLimit_10 ?_
  refine v_getI C (iO (zz q 0 0 3)) fl_RX4_44 hA.k0 hV.v37 dX4_setLimit_11 ?_
  refine v_istore_n C [(2, .int (iO (zz q 0 0 3))), (0, .ref (ad 0 0)), (1, .int x)] (by decide) rfl rfl dX4_setLimit_14 ?_
  refine v_aload_n C 1 rfl rfl dX4_setLimit_15 ?_
  refine v_iload_n C 2 rfl rfl dX4_setLimit_16 ?_
  refine v_putI C fl_RX4_44 hA.k0 rfl rfl dX4_setLimit_17 ?_
  refine v_iload_n C 0 rfl rfl dX4_setLimit_20 ?_
  exact v_xiret C hRT (Nat.le_of_ble_eq_true rfl) (Nat.le_of_ble_eq_true rfl) dX4_setLimit_21 ⟨_, rfl, (bI_n0 hok : ¬ x < 1 ∧ ¬ 9 < x), hA.I, XV.set (k := 3) hA hV (by decide), rfl⟩
set_option maxRecDepth 100000 in
set_option maxHeartbeats 4000000 in
theorem c_X4_setNearness (l : Launch) (hlf : l.stackTraces = false) (S : HS) (ad : AD) (q : AS) (hB : BI q) (hA : XA S ad (cn q 1)) (hV : XV S ad q) (x : Int32) : cX l yX4_setNearness cX4_setNearness 3 (Option.some Jvm.ClassFile.FieldType.int) 10 [.ref (ad 0 0), .int x] S (pI fun r u => isIn x 0 100 ∧ XA u ad (cn q 1) ∧ XV u ad (zs q 0 0 4 x.toInt) ∧ iO (zz q 0 0 4) = r) (fun E u => E = eIA ∧ S = u ∧ ¬ isIn x 0 100) 1 6 := by
  refine cX_intro (by decide +kernel) cd_X4_setNearness (Nat.le_of_ble_eq_true rfl) ?_
  intro pP eE sS mM aA bB tT cC G A C hRT hnt
  refine V.lvs (lv2 := [(0, .ref (ad 0 0)), (1, .int x)]) rfl ?_
  refine v_iload_n C 1 rfl rfl dX4_setNearness_0 ?_
  refine v_iconst C 0 (by decide) dX4_setNearness_1 ?_
  refine v_bipush C 100 (by decide) dX4_setNearness_2 ?_
  refine v_callSi C (st := []) [.int x, .int 0, .int 100] (c_X4_isWithin l S x 0 100) ml_RX4_86 ms_yX4_isWithin rfl (Nat.le_of_ble_eq_true rfl) (Nat.le_of_ble_eq_true rfl) (Nat.le_of_ble_eq_true rfl) (Nat.le_of_ble_eq_true rfl) (Nat.le_of_ble_eq_true rfl) dX4_setNearness_4 (fun r u h => ?_) _ rfl
  obtain ⟨rfl, rfl⟩ := h
  refine v_xcallSv C (st := []) [.int (bI (¬ x < 0 ∧ ¬ 100 < x))] (c_X4_refuseUnless l hlf S (bI (¬ x < 0 ∧ ¬ 100 < x))) ml_RX4_60 ms_yX4_refuseUnless rfl (Nat.le_of_ble_eq_true rfl) (Nat.le_of_ble_eq_true rfl) (Nat.le_of_ble_eq_true rfl) (Nat.le_of_ble_eq_true rfl) (Nat.le_of_ble_eq_true rfl) dX4_setNearness_7 (fun E u h => ?_) (fun u h => ?_) _ rfl
  · obtain ⟨rfl, rfl, hx⟩ := h
    exact vx_end C hnt (Nat.le_of_ble_eq_true rfl) (Nat.le_of_ble_eq_true rfl) ⟨rfl, rfl, fun z => bI_e0 hx z⟩
  obtain ⟨rfl, hok⟩ := h
  refine v_aload_n C 0 rfl rfl dX4_setNearness_10 ?_
  refine v_getI C (iO (zz q 0 0 4)) fl_RX4_47 hA.k0 hV.v38 dX4_setNearness_11 ?_
  refine v_istore_n C [(2, .int (iO (zz q 0 0 4))), (0, .ref (ad 0 0)), (1, .int x)] (by decide) rfl rfl dX4_setNearness_14 ?_
  refine v_aload_n C 1 rfl rfl dX4_setNearness_15 ?_
  refine v_iload_n C 2 rfl rfl dX4_setNearness_16 ?_
  refine v_putI C fl_RX4_47 hA.k0 rfl rfl dX4_setNearness_17 ?_
  refine v_iload_n C 0 rfl rfl dX4_setNearness_20 ?_
  exact v_xiret C hRT (Nat.le_of_ble_eq_true rfl) (Nat.le_of_ble_eq_true rfl) dX4_setNearness_21 ⟨_, rfl, (bI_n0 hok : ¬ x < 0 ∧ ¬ 100 < x), hA.I, XV.set (k := 4) hA hV (by decide), rfl⟩
set_option maxRecDepth 100000 in
set_option maxHeartbeats 4000000 in
theorem c_X4_setFilter (l : Launch) (hlf : l.stackTraces = false) (S : HS) (ad : AD) (q : AS) (hB : BI q) (hA : XA S ad (cn q 1)) (hV : XV S ad q) (x y : Int32) : cX l yX4_setFilter cX4_setFilter 4 (Option.some Jvm.ClassFile.FieldType.int) 10 [.ref (ad 0 0), .int x, .int y] S (pI fun r u => (isIn x 1 16 ∧ isIn y 0 16) ∧ XA u ad (cn q 1) ∧ XV u ad (zs (zs q 0 0 1 x.toInt) 0 0 2 y.toInt) ∧ 100 * iO (zz q 0 0 1) + iO (zz q 0 0 2) = r) (fun E u => E = eIA ∧ S = u ∧ ¬ (isIn x 1 16 ∧ isIn y 0 16)) 1 6 := by
  refine cX_intro (by decide +kernel) cd_X4_setFilter (Nat.le_of_ble_eq_true rfl) ?_
  intro pP eE sS mM aA bB tT cC G A C hRT hnt
  refine V.lvs (lv2 := [(0, .ref (ad 0 0)), (1, .int x), (2, .int y)]) rfl ?_
  refine v_iload_n C 1 rfl rfl dX4_setFilter_0 ?_
  refine v_iconst C 1 (by decide) dX4_setFilter_1 ?_
  refine v_bipush C 16 (by decide) dX4_setFilter_2 ?_
  refine v_callSi C (st := []) [.int x, .int 1, .int 16] (c_X4_isWithin l S x 1 16) ml_RX4_86 ms_yX4_isWithin rfl (Nat.le_of_ble_eq_true rfl) (Nat.le_of_ble_eq_true rfl) (Nat.le_of_ble_eq_true rfl) (Nat.le_of_ble_eq_true rfl) (Nat.le_of_ble_eq_true rfl) dX4_setFilter_4 (fun r u h => ?_) _ rfl
  obtain ⟨rfl, rfl⟩ := h
  refine v_if_eq C 24 (by decide) dX4_setFilter_7 (fun c7 => ?_) (fun c7 => ?_)
  · refine v_iconst C 0 (by decide) dX4_setFilter_24 ?_
    refine v_xcallSv C (st := []) [.int 0] (c_X4_refuseUnless l hlf S 0) ml_RX4_60 ms_yX4_refuseUnless rfl (Nat.le_of_ble_eq_true rfl) (Nat.le_of_ble_eq_true rfl) (Nat.le_of_ble_eq_true rfl) (Nat.le_of_ble_eq_true rfl) (Nat.le_of_ble_eq_true rfl) dX4_setFilter_25 (fun E u h => ?_) (fun u h => ?_) _ rfl
    · obtain ⟨rfl, rfl, hx⟩ := h
      exact vx_end C hnt (Nat.le_of_ble_eq_true rfl) (Nat.le_of_ble_eq_true rfl) ⟨rfl, rfl, fun z => bI_e0 c7 z.1⟩
    exact absurd rfl h.2
  · refine v_iload_n C 2 rfl rfl dX4_setFilter_10 ?_
    refine v_iconst C 0 (by decide) dX4_setFilter_11 ?_
    refine v_bipush C 16 (by decide) dX4_setFilter_12 ?_
    refine v_callSi C (st := []) [.int y, .int 0, .int 16] (c_X4_isWithin l S y 0 16) ml_RX4_86 ms_yX4_isWithin rfl (Nat.le_of_ble_eq_true rfl) (Nat.le_of_ble_eq_true rfl) (Nat.le_of_ble_eq_true rfl) (Nat.le_of_ble_eq_true rfl) (Nat.le_of_ble_eq_true rfl) dX4_setFilter_14 (fun r u h => ?_) _ rfl
    obtain ⟨rfl, rfl⟩ := h
    refine v_if_eq C 24 (by decide) dX4_setFilter_17 (fun c17 => ?_) (fun c17 => ?_)
    · refine v_iconst C 0 (by decide) dX4_setFilter_24 ?_
      refine v_xcallSv C (st := []) [.int 0] (c_X4_refuseUnless l hlf S 0) ml_RX4_60 ms_yX4_refuseUnless rfl (Nat.le_of_ble_eq_true rfl) (Nat.le_of_ble_eq_true rfl) (Nat.le_of_ble_eq_true rfl) (Nat.le_of_ble_eq_true rfl) (Nat.le_of_ble_eq_true rfl) dX4_setFilter_25 (fun E u h => ?_) (fun u h => ?_) _ rfl
      · obtain ⟨rfl, rfl, hx⟩ := h
        exact vx_end C hnt (Nat.le_of_ble_eq_true rfl) (Nat.le_of_ble_eq_true rfl) ⟨rfl, rfl, fun z => bI_e0 c17 z.2⟩
      exact absurd rfl h.2
    · refine v_iconst C 1 (by decide) dX4_setFilter_20 ?_
      refine v_goto C 25 (by decide) dX4_setFilter_21 ?_
      refine v_xcallSv C (st := []) [.int 1] (c_X4_refuseUnless l hlf S 1) ml_RX4_60 ms_yX4_refuseUnless rfl (Nat.le_of_ble_eq_true rfl) (Nat.le_of_ble_eq_true rfl) (Nat.le_of_ble_eq_true rfl) (Nat.le_of_ble_eq_true rfl) (Nat.le_of_ble_eq_true rfl) dX4_setFilter_25 (fun E u h => ?_) (fun u h => ?_) _ rfl
      · exact absurd h.2.2 (by decide)
      obtain ⟨rfl, hok⟩ := h
      refine v_bipush C 100 (by decide) dX4_setFilter_28 ?_
      refine v_aload_n C 0 rfl rfl dX4_setFilter_30 ?_
      refine v_getI C (iO (zz q 0 0 1)) fl_RX4_38 hA.k0 hV.v35 dX4_setFilter_31 ?_
      refine v_imul C dX4_setFilter_34 ?_
      refine v_aload_n C 0 rfl rfl dX4_setFilter_35 ?_
      refine v_getI C (iO (zz q 0 0 2)) fl_RX4_41 hA.k0 hV.v36 dX4_setFilter_36 ?_
      refine v_iadd C dX4_setFilter_39 ?_
      refine v_istore_n C [(3, .int ((100 * (iO (zz q 0 0 1))) + (iO (zz q 0 0 2)))), (0, .ref (ad 0 0)), (1, .int x), (2, .int y)] (by decide) rfl rfl dX4_setFilter_40 ?_
      refine v_aload_n C 1 rfl rfl dX4_setFilter_41 ?_
      refine v_iload_n C 2 rfl rfl dX4_setFilter_42 ?_
      refine v_putI C fl_RX4_38 hA.k0 rfl rfl dX4_setFilter_43 ?_
      refine v_aload_n C 1 rfl rfl dX4_setFilter_46 ?_
      refine v_iload_n C 3 rfl rfl dX4_setFilter_47 ?_
      refine v_putI C fl_RX4_41 hA.k0 rfl rfl dX4_setFilter_48 ?_
      refine v_iload_n C 0 rfl rfl dX4_setFilter_51 ?_
      exact v_xiret C hRT (Nat.le_of_ble_eq_true rfl) (Nat.le_of_ble_eq_true rfl) dX4_setFilter_52 ⟨_, rfl, ⟨(bI_n0 c7 : ¬ x < 1 ∧ ¬ 16 < x), (bI_n0 c17 : ¬ y < 0 ∧ ¬ 16 < y)⟩, hA.I.I, XV.set (k := 2) (XA.I hA) (XV.set (k := 1) hA hV (by decide)) (by decide), rfl⟩
