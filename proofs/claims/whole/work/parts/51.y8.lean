theorem aI_tI (S : HS) (a j : Nat) (v : Int32) (a' z : Nat) : aI (tI S a j v) a' z = if a' = a ∧ z = j then v else aI S a' z := rfl
theorem NV.clk {S T : HS} {am : AM} {q : AS} {j c : Nat} {w : Nat → Int} (hA : NA S am (cn q 1)) (hV : NV S am q) (hj : j < 4) (fI : ∀ f a, f ≠ 61 → hI T f a = hI S f a) (fN : ∀ a, hN T a = hN S a) (fA : ∀ a, a ≠ am 1 → a ≠ am 2 → aI T a = aI S a)
    (f2 : ∀ i, i ≠ j → aI T (am 2) i = aI S (am 2) i) (h2 : aI T (am 2) j = nI c) (f1 : ∀ i, i ≠ j → ∀ k, k < 4 → aI T (am 1) (4 * i + k) = aI S (am 1) (4 * i + k)) (h1 : c = 1 → ∀ k, k < 2 → aI T (am 1) (4 * j + k) = iO (w (k + 2))) (h3 : c = 2 → ∀ k, k < 4 → aI T (am 1) (4 * j + k) = iO (w k)) : NV T am (clkA q j c w) := by
  have c1 : ∀ k, k ≠ 10 + j → cn (clkA q j c w) k = cn q k := fun k hk => clk_cn q j c w hk
  have z1 : ∀ i, i ≠ 1 → ∀ j' k, zz (clkA q j c w) i j' k = zz q i j' k := fun i hi j' k => clk_zz q j c w (fun z => hi z.1)
  have a : ∀ i, i < 12 → i ≠ 1 → i ≠ 2 → aI T (am i) = aI S (am i) := fun i hi n1 n2 => fA _ (fun z => n1 (hA.jj i hi 1 (by omega) z)) (fun z => n2 (hA.jj i hi 2 (by omega) z))
  have hr : ∀ t, t < cn q 1 → aI T (am (20 + t)) = aI S (am (20 + t)) := fun t ht => fA _ (ne_kinds (hA.kh t ht) hA.k1 (by decide)) (ne_kinds (hA.kh t ht) hA.k2 (by decide))
  refine ⟨by rw [fI _ _ (by decide), c1 1 (by omega)]; exact hV.v44, by rw [fI _ _ (by decide), c1 0 (by omega)]; exact hV.v50, by rw [fI _ _ (by decide), z1 0 (by decide)]; exact hV.v51, by rw [fI _ _ (by decide), z1 0 (by decide)]; exact hV.v52, by rw [fI _ _ (by decide), z1 0 (by decide)]; exact hV.v53, by rw [fI _ _ (by decide), z1 0 (by decide)]; exact hV.v54, by rw [fI _ _ (by decide), z1 0 (by decide)]; exact hV.v55, by rw [fI _ _ (by decide), c1 3 (by omega)]; exact hV.v56, by rw [fI _ _ (by decide), c1 2 (by omega)]; exact hV.v57,
    fun i hi => ?_, fun i hi h k hk => ?_, fun i hi h k hk => ?_, fun t ht k hk => ?_, fun t ht => ?_, fun t ht j' hj' => ?_, fun t ht => ?_, fun r hr' => by rw [a 6 (by decide) (by decide) (by decide), z1 2 (by decide)]; exact hV.t6 r hr', fun r hr' => by rw [a 7 (by decide) (by decide) (by decide), z1 2 (by decide)]; exact hV.t7 r hr', fun r hr' => by rw [a 8 (by decide) (by decide) (by decide), z1 2 (by decide)]; exact hV.t8 r hr'⟩
  · by_cases e : i = j
    · rw [e, clk_cn1]; exact h2
    · rw [f2 i e, c1 _ (by omega)]; exact hV.pm i hi
  · by_cases e : i = j
    · rw [e, clk_cn1] at h
      rw [e, clk_zz1]; exact h1 h k hk
    · rw [c1 _ (by omega)] at h
      rw [f1 i e k (by omega), clk_zz q j c w (fun z => e z.2)]; exact hV.p1 i hi h k hk
  · by_cases e : i = j
    · rw [e, clk_cn1] at h
      rw [e, clk_zz1]; exact h3 h k hk
    · rw [c1 _ (by omega)] at h
      rw [f1 i e k hk, clk_zz q j c w (fun z => e z.2)]; exact hV.p2 i hi h k hk
  all_goals rw [c1 1 (by omega)] at ht
  · rw [a 3 (by decide) (by decide) (by decide), z1 3 (by decide)]; exact hV.m t ht k hk
  · rw [a 5 (by decide) (by decide) (by decide), c1 _ (by omega)]; exact hV.hm t ht
  · rw [c1 _ (by omega)] at hj'
    rw [hr t ht, z1 4 (by decide)]; exact hV.hr t ht j' hj'
  · rw [fN, c1 _ (by omega)]; exact hV.hl t ht
theorem NA.tI {S : HS} {am : AM} {n a j : Nat} {x : Int32} (h : NA S am n) : NA (tI S a j x) am n := h.of rfl rfl rfl rfl
set_option maxRecDepth 100000 in
set_option maxHeartbeats 4000000 in
theorem c_X5_forgetPairs (l : Launch) (S : HS) (am : AM) (q : AS) (hA : NA S am (cn q 1)) (hV : NV S am q) (i : Int32) : cM l yX5_forgetPairs cX5_forgetPairs 3 (Option.some Jvm.ClassFile.FieldType.int) 6 [.ref (am 0), .int i] S (pI fun r u => (∃ j, j < 4 ∧ i = nI j ∧ NA u am (cn q 1) ∧ NV u am (fgtQ q j) ∧ hI u 61 (am 0) = 0 ∧ nI (cn q (10 + j)) = r) ∨ (¬ isSn i ∧ FrN S u am ∧ hI u 61 (am 0) = 1)) 0 0 := by
  refine cM_intro (by decide +kernel) cd_X5_forgetPairs (Nat.le_of_ble_eq_true rfl) ?_
  intro pP eE sS mM aA bB tT cC G A C hRT hin
  refine V.lvs (lv2 := [(0, .ref (am 0)), (1, .int i)]) rfl ?_
  refine v_aload_n C 0 rfl rfl dX5_forgetPairs_0 ?_
  refine v_iload_n C 1 rfl rfl dX5_forgetPairs_1 ?_
  refine v_callSi C (st := [.ref (am 0)]) [.int i] (c_X5_isSensor l S i) ml_RX5_84 ms_yX5_isSensor rfl (Nat.le_of_ble_eq_true rfl) (Nat.le_of_ble_eq_true rfl) (Nat.le_of_ble_eq_true rfl) (Nat.le_of_ble_eq_true rfl) (Nat.le_of_ble_eq_true rfl) dX5_forgetPairs_2 (fun r u h => ?_) _ rfl
  obtain ⟨rfl, rfl⟩ := h
  refine v_if_eq C 12 (by decide) dX5_forgetPairs_5 (fun c5 => ?_) (fun c5 => ?_)
  · refine v_iconst C 1 (by decide) dX5_forgetPairs_12 ?_
    refine v_putI C fl_RX5_62 hA.k0 rfl rfl dX5_forgetPairs_13 ?_
    refine v_aload_n C 0 rfl rfl dX5_forgetPairs_16 ?_
    refine v_getI C 1 fl_RX5_62 hA.k0 hI_sI1 dX5_forgetPairs_17 ?_
    refine v_if_le C 25 (by decide) dX5_forgetPairs_20 (fun q => absurd q (by decide)) (fun _ => ?_)
    refine v_iconst C (-1) (by decide) dX5_forgetPairs_23 ?_
    exact v_iret C hRT (Nat.le_of_ble_eq_true rfl) (Nat.le_of_ble_eq_true rfl) dX5_forgetPairs_24 ⟨_, rfl, Or.inr ⟨(bI_e0 c5 : ¬ (¬ i < 0 ∧ i < 4)), FrN.I, hI_sI1⟩⟩
  · refine v_iconst C 0 (by decide) dX5_forgetPairs_8 ?_
    refine v_goto C 13 (by decide) dX5_forgetPairs_9 ?_
    refine v_putI C fl_RX5_62 hA.k0 rfl rfl dX5_forgetPairs_13 ?_
    refine v_aload_n C 0 rfl rfl dX5_forgetPairs_16 ?_
    refine v_getI C 0 fl_RX5_62 hA.k0 hI_sI1 dX5_forgetPairs_17 ?_
    refine v_if_le C 25 (by decide) dX5_forgetPairs_20 (fun _ => ?_) (fun q => absurd (by decide) q)
    obtain ⟨j, hj, rfl⟩ := ixI (n := 4) (bI_n0 c5 : ¬ i < 0 ∧ i < 4).1 (bI_n0 c5 : ¬ i < 0 ∧ i < 4).2 (by decide)
    refine v_aload_n C 0 rfl rfl dX5_forgetPairs_25 ?_
    refine v_getR C (am 2) fl_RX5_13 hA.k0 hA.r42 dX5_forgetPairs_26 ?_
    refine v_iload_n C 1 rfl rfl dX5_forgetPairs_29 ?_
    refine v_iald C (nI (cn q (10 + j))) hA.k2 (vpi hA.n2 (vp_in_nI (by omega) (by decide))) ((congrArg _ (nI_clamp (by omega))).trans (hV.pm j hj)) dX5_forgetPairs_30 ?_
    refine v_istore_n C [(2, .int (nI (cn q (10 + j)))), (0, .ref (am 0)), (1, .int (nI j))] (by decide) rfl rfl dX5_forgetPairs_31 ?_
    refine v_aload_n C 1 rfl rfl dX5_forgetPairs_32 ?_
    refine v_getR C (am 2) fl_RX5_13 hA.k0 hA.r42 dX5_forgetPairs_33 ?_
    refine v_iload_n C 2 rfl rfl dX5_forgetPairs_36 ?_
    refine v_iconst C 0 (by decide) dX5_forgetPairs_37 ?_
    refine v_iastj C j (nI_clamp (by omega)) hA.k2 (vpi hA.n2 (vp_in_nI (by omega) (by decide))) dX5_forgetPairs_38 ?_
    refine v_iload_n C 0 rfl rfl dX5_forgetPairs_39 ?_
    exact v_iret C hRT (Nat.le_of_ble_eq_true rfl) (Nat.le_of_ble_eq_true rfl) dX5_forgetPairs_40 ⟨_, rfl, Or.inl ⟨j, hj, rfl, (NA.I hA).tI, NV.clk hA hV hj (fun f a h => hI_sI2 (fun z => h z.1)) (fun _ => rfl) (fun a h1 h2 => aI_tI2 h2) (fun i hi => by rw [aI_tI1, if_neg hi]; rfl) (by rw [aI_tI1, if_pos rfl]; rfl) (fun i hi k hk => congrFun (aI_tI2 (fun z => absurd (hA.jj 1 (by decide) 2 (by decide) z) (by decide))) _) (fun h => absurd h (by decide)) (fun h => absurd h (by decide)), hI_sI1, rfl⟩⟩
set_option maxRecDepth 100000 in
set_option maxHeartbeats 4000000 in
theorem c_X5_correctedTime (l : Launch) (S : HS) (am : AM) (q : AS) (hB : BI q) (hA : NA S am (cn q 1)) (hV : NV S am q) (i t : Int32) : cM l yX5_correctedTime cX5_correctedTime 3 (Option.some Jvm.ClassFile.FieldType.int) 8 [.ref (am 0), .int i, .int t] S (pI fun r u => (∃ j, j < 4 ∧ i = nI j ∧ isTm t ∧ FrN S u am ∧ hI u 61 (am 0) = 0 ∧ iO (crt q j t.toInt) = r) ∨ (¬ isSn i ∧ FrN S u am ∧ hI u 61 (am 0) = 1) ∨ (∃ j, j < 4 ∧ i = nI j ∧ ¬ isTm t ∧ FrN S u am ∧ hI u 61 (am 0) = 2)) 0 0 := by
  refine cM_intro (by decide +kernel) cd_X5_correctedTime (Nat.le_of_ble_eq_true rfl) ?_
  intro pP eE sS mM aA bB tT cC G A C hRT hin
  refine V.lvs (lv2 := [(0, .ref (am 0)), (1, .int i), (2, .int t)]) rfl ?_
  refine v_aload_n C 0 rfl rfl dX5_correctedTime_0 ?_
  refine v_iload_n C 1 rfl rfl dX5_correctedTime_1 ?_
  refine v_callSi C (st := [.ref (am 0)]) [.int i] (c_X5_isSensor l S i) ml_RX5_84 ms_yX5_isSensor rfl (Nat.le_of_ble_eq_true rfl) (Nat.le_of_ble_eq_true rfl) (Nat.le_of_ble_eq_true rfl) (Nat.le_of_ble_eq_true rfl) (Nat.le_of_ble_eq_true rfl) dX5_correctedTime_2 (fun r u h => ?_) _ rfl
  obtain ⟨rfl, rfl⟩ := h
  refine v_if_ne C 12 (by decide) dX5_correctedTime_5 (fun c5 => ?_) (fun c5 => ?_)
  · obtain ⟨j, hj, rfl⟩ := ixI (n := 4) (bI_n0 c5 : ¬ i < 0 ∧ i < 4).1 (bI_n0 c5 : ¬ i < 0 ∧ i < 4).2 (by decide)
    refine v_iload_n C 2 rfl rfl dX5_correctedTime_12 ?_
    refine v_callSi C (st := [.ref (am 0)]) [.int t] (c_X5_isTime l S t) ml_RX5_80 ms_yX5_isTime rfl (Nat.le_of_ble_eq_true rfl) (Nat.le_of_ble_eq_true rfl) (Nat.le_of_ble_eq_true rfl) (Nat.le_of_ble_eq_true rfl) (Nat.le_of_ble_eq_true rfl) dX5_correctedTime_13 (fun r u h => ?_) _ rfl
    obtain ⟨rfl, rfl⟩ := h
    refine v_if_ne C 23 (by decide) dX5_correctedTime_16 (fun c16 => ?_) (fun c16 => ?_)
    · refine v_iconst C 0 (by decide) dX5_correctedTime_23 ?_
      refine v_putI C fl_RX5_62 hA.k0 rfl rfl dX5_correctedTime_24 ?_
      refine v_aload_n C 0 rfl rfl dX5_correctedTime_27 ?_
      refine v_getI C 0 fl_RX5_62 hA.k0 hI_sI1 dX5_correctedTime_28 ?_
      refine v_if_ne C 43 (by decide) dX5_correctedTime_31 (fun q => absurd (by decide) q) (fun _ => ?_)
      refine v_aload_n C 0 rfl rfl dX5_correctedTime_34 ?_
      refine v_iload_n C 1 rfl rfl dX5_correctedTime_35 ?_
      refine v_iload_n C 2 rfl rfl dX5_correctedTime_36 ?_
      refine v_callVi C (st := []) [.int (nI j), .int t] (c_X5_corrected l (sI S 61 (am 0) 0) am q hB ((FrN.I (v := 0)).toA hA) ((FrN.I (v := 0)).toV hA hV) j hj t (bI_n0 c16 : ¬ t < 0 ∧ ¬ 9999 < t)) ml_RX5_92 mi_yX5_corrected hA.k0 (by decide) (by decide +kernel) rfl (Nat.le_of_ble_eq_true rfl) (Nat.le_of_ble_eq_true rfl) (Nat.le_of_ble_eq_true rfl) (Nat.le_of_ble_eq_true rfl) (Nat.le_of_ble_eq_true rfl) dX5_correctedTime_37 (fun r u h => ?_) _ rfl
      obtain ⟨rfl, rfl⟩ := h
      refine v_goto C 44 (by decide) dX5_correctedTime_40 ?_
      exact v_iret C hRT (Nat.le_of_ble_eq_true rfl) (Nat.le_of_ble_eq_true rfl) dX5_correctedTime_44 ⟨_, rfl, Or.inl ⟨j, hj, rfl, (bI_n0 c16 : ¬ t < 0 ∧ ¬ 9999 < t), FrN.I, hI_sI1, rfl⟩⟩
    · refine v_iconst C 2 (by decide) dX5_correctedTime_19 ?_
      refine v_goto C 24 (by decide) dX5_correctedTime_20 ?_
      refine v_putI C fl_RX5_62 hA.k0 rfl rfl dX5_correctedTime_24 ?_
      refine v_aload_n C 0 rfl rfl dX5_correctedTime_27 ?_
      refine v_getI C 2 fl_RX5_62 hA.k0 hI_sI1 dX5_correctedTime_28 ?_
      refine v_if_ne C 43 (by decide) dX5_correctedTime_31 (fun _ => ?_) (fun q => absurd q (by decide))
      refine v_iconst C (-1) (by decide) dX5_correctedTime_43 ?_
      exact v_iret C hRT (Nat.le_of_ble_eq_true rfl) (Nat.le_of_ble_eq_true rfl) dX5_correctedTime_44 ⟨_, rfl, Or.inr (Or.inr ⟨j, hj, rfl, (bI_e0 c16 : ¬ (¬ t < 0 ∧ ¬ 9999 < t)), FrN.I, hI_sI1⟩)⟩
  · refine v_iconst C 1 (by decide) dX5_correctedTime_8 ?_
    refine v_goto C 24 (by decide) dX5_correctedTime_9 ?_
    refine v_putI C fl_RX5_62 hA.k0 rfl rfl dX5_correctedTime_24 ?_
    refine v_aload_n C 0 rfl rfl dX5_correctedTime_27 ?_
    refine v_getI C 1 fl_RX5_62 hA.k0 hI_sI1 dX5_correctedTime_28 ?_
    refine v_if_ne C 43 (by decide) dX5_correctedTime_31 (fun _ => ?_) (fun q => absurd q (by decide))
    refine v_iconst C (-1) (by decide) dX5_correctedTime_43 ?_
    exact v_iret C hRT (Nat.le_of_ble_eq_true rfl) (Nat.le_of_ble_eq_true rfl) dX5_correctedTime_44 ⟨_, rfl, Or.inr (Or.inl ⟨(bI_e0 c5 : ¬ (¬ i < 0 ∧ i < 4)), FrN.I, hI_sI1⟩)⟩
