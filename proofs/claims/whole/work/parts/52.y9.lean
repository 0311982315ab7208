theorem NV.rep {S T : HS} {am : AM} {q : AS} {w : Nat → Int} (hA : NA S am (cn q 1)) (hV : NV S am q) (fI : ∀ f a, f ≠ 61 → f ≠ 50 → hI T f a = hI S f a) (h50 : hI T 50 (am 0) = nI (cn q 0 + 1)) (fN : ∀ a, hN T a = hN S a) (fA : ∀ a, a ≠ am 6 → a ≠ am 7 → a ≠ am 8 → aI T a = aI S a)
    (h6 : ∀ r, aI T (am 6) r = if r = cn q 0 then iO (w 0) else aI S (am 6) r) (h7 : ∀ r, aI T (am 7) r = if r = cn q 0 then iO (w 1) else aI S (am 7) r) (h8 : ∀ r, aI T (am 8) r = if r = cn q 0 then iO (w 2) else aI S (am 8) r) : NV T am (repQ q w) := by
  have c1 : ∀ k, k ≠ 0 → cn (repQ q w) k = cn q k := fun k hk => rep_cn q w hk
  have z1 : ∀ i, i ≠ 2 → ∀ j' k, zz (repQ q w) i j' k = zz q i j' k := fun i hi j' k => rep_zz q w (fun z => hi z.1)
  have a : ∀ i, i < 6 → aI T (am i) = aI S (am i) := fun i hi => fA _ (fun z => absurd (hA.jj i (by omega) 6 (by omega) z) (by omega)) (fun z => absurd (hA.jj i (by omega) 7 (by omega) z) (by omega)) (fun z => absurd (hA.jj i (by omega) 8 (by omega) z) (by omega))
  have hr : ∀ t, t < cn q 1 → aI T (am (20 + t)) = aI S (am (20 + t)) := fun t ht => fA _ (ne_kinds (hA.kh t ht) hA.k6 (by decide)) (ne_kinds (hA.kh t ht) hA.k7 (by decide)) (ne_kinds (hA.kh t ht) hA.k8 (by decide))
  have row : ∀ (b : Nat) (m : Nat), (∀ r, r < 4 → aI S b r = iO (zz q 2 r m)) → (∀ r, aI T b r = if r = cn q 0 then iO (w m) else aI S b r) → ∀ r, r < 4 → aI T b r = iO (zz (repQ q w) 2 r m) := fun b m hs ht r hr4 => by
    rw [ht]
    by_cases e : r = cn q 0
    · rw [if_pos e, e, rep_zz2]
    · rw [if_neg e, rep_zz q w (fun z => e z.2)]; exact hs r hr4
  refine ⟨by rw [fI _ _ (by decide) (by decide), c1 1 (by decide)]; exact hV.v44, h50, by rw [fI _ _ (by decide) (by decide), z1 0 (by decide)]; exact hV.v51, by rw [fI _ _ (by decide) (by decide), z1 0 (by decide)]; exact hV.v52, by rw [fI _ _ (by decide) (by decide), z1 0 (by decide)]; exact hV.v53, by rw [fI _ _ (by decide) (by decide), z1 0 (by decide)]; exact hV.v54, by rw [fI _ _ (by decide) (by decide), z1 0 (by decide)]; exact hV.v55, by rw [fI _ _ (by decide) (by decide), c1 3 (by decide)]; exact hV.v56, by rw [fI _ _ (by decide) (by decide), c1 2 (by decide)]; exact hV.v57,
    fun i hi => by rw [a 2 (by decide), c1 _ (by omega)]; exact hV.pm i hi, fun i hi h k hk => ?_, fun i hi h k hk => ?_, fun t ht k hk => ?_, fun t ht => ?_, fun t ht j hj => ?_, fun t ht => ?_, row _ 0 hV.t6 h6, row _ 1 hV.t7 h7, row _ 2 hV.t8 h8⟩
  · rw [c1 _ (by omega)] at h
    rw [a 1 (by decide), z1 1 (by decide)]; exact hV.p1 i hi h k hk
  · rw [c1 _ (by omega)] at h
    rw [a 1 (by decide), z1 1 (by decide)]; exact hV.p2 i hi h k hk
  all_goals rw [c1 1 (by decide)] at ht
  · rw [a 3 (by decide), z1 3 (by decide)]; exact hV.m t ht k hk
  · rw [a 5 (by decide), c1 _ (by omega)]; exact hV.hm t ht
  · rw [c1 _ (by omega)] at hj
    rw [hr t ht, z1 4 (by decide)]; exact hV.hr t ht j hj
  · rw [fN, c1 _ (by omega)]; exact hV.hl t ht
theorem bI_pl {x y : Int32} (h : ¬ bI ((¬ x < (-999) ∧ ¬ 999 < x) ∧ (¬ y < (-999) ∧ ¬ 999 < y)) = 0) : isPl x ∧ isPl y := (bI_n0 h : (¬ x < (-999) ∧ ¬ 999 < x) ∧ (¬ y < (-999) ∧ ¬ 999 < y))
set_option maxRecDepth 100000 in
set_option maxHeartbeats 4000000 in
theorem c_X5_report (l : Launch) (S : HS) (am : AM) (q : AS) (hB : BI q) (hA : NA S am (cn q 1)) (hV : NV S am q) (i t x y : Int32) : cM l yX5_report cX5_report 5 (Option.some Jvm.ClassFile.FieldType.int) 8 [.ref (am 0), .int i, .int t, .int x, .int y] S (pI fun r u => (∃ j, j < 4 ∧ i = nI j ∧ (isTm t ∧ isPl x ∧ isPl y) ∧ cn q 0 < 4 ∧ NA u am (cn q 1) ∧ NV u am (rptQ q j t x y) ∧ hI u 61 (am 0) = 0 ∧ nI (cn q 0) = r) ∨ (¬ isSn i ∧ FrN S u am ∧ hI u 61 (am 0) = 1) ∨ (∃ j, j < 4 ∧ i = nI j ∧ ¬ (isTm t ∧ isPl x ∧ isPl y) ∧ FrN S u am ∧ hI u 61 (am 0) = 2) ∨ (∃ j, j < 4 ∧ i = nI j ∧ (isTm t ∧ isPl x ∧ isPl y) ∧ cn q 0 = 4 ∧ FrN S u am ∧ hI u 61 (am 0) = 3)) 0 0 := by
  refine cM_intro (by decide +kernel) cd_X5_report (Nat.le_of_ble_eq_true rfl) ?_
  intro pP eE sS mM aA bB tT cC G A C hRT hin
  refine V.lvs (lv2 := [(0, .ref (am 0)), (1, .int i), (2, .int t), (3, .int x), (4, .int y)]) rfl ?_
  have h04 := hB.b0
  refine v_aload_n C 0 rfl rfl dX5_report_0 ?_
  refine v_iload_n C 1 rfl rfl dX5_report_1 ?_
  refine v_callSi C (st := [.ref (am 0)]) [.int i] (c_X5_isSensor l S i) ml_RX5_84 ms_yX5_isSensor rfl (Nat.le_of_ble_eq_true rfl) (Nat.le_of_ble_eq_true rfl) (Nat.le_of_ble_eq_true rfl) (Nat.le_of_ble_eq_true rfl) (Nat.le_of_ble_eq_true rfl) dX5_report_2 (fun r u h => ?_) _ rfl
  obtain ⟨rfl, rfl⟩ := h
  refine v_if_ne C 12 (by decide) dX5_report_5 (fun c5 => ?_) (fun c5 => ?_)
  · obtain ⟨j, hj, rfl⟩ := ixI (n := 4) (bI_n0 c5 : ¬ i < 0 ∧ i < 4).1 (bI_n0 c5 : ¬ i < 0 ∧ i < 4).2 (by decide)
    refine v_iload_n C 2 rfl rfl dX5_report_12 ?_
    refine v_callSi C (st := [.ref (am 0)]) [.int t] (c_X5_isTime l S t) ml_RX5_80 ms_yX5_isTime rfl (Nat.le_of_ble_eq_true rfl) (Nat.le_of_ble_eq_true rfl) (Nat.le_of_ble_eq_true rfl) (Nat.le_of_ble_eq_true rfl) (Nat.le_of_ble_eq_true rfl) dX5_report_13 (fun r u h => ?_) _ rfl
    obtain ⟨rfl, rfl⟩ := h
    refine v_if_eq C 28 (by decide) dX5_report_16 (fun c16 => ?_) (fun c16 => ?_)
    · refine v_iconst C 2 (by decide) dX5_report_28 ?_
      refine v_goto C 45 (by decide) dX5_report_29 ?_
      refine v_putI C fl_RX5_62 hA.k0 rfl rfl dX5_report_45 ?_
      refine v_aload_n C 0 rfl rfl dX5_report_48 ?_
      refine v_getI C 2 fl_RX5_62 hA.k0 hI_sI1 dX5_report_49 ?_
      refine v_if_le C 57 (by decide) dX5_report_52 (fun q => absurd q (by decide)) (fun _ => ?_)
      refine v_iconst C (-1) (by decide) dX5_report_55 ?_
      exact v_iret C hRT (Nat.le_of_ble_eq_true rfl) (Nat.le_of_ble_eq_true rfl) dX5_report_56 ⟨_, rfl, Or.inr (Or.inr (Or.inl ⟨j, hj, rfl, fun z => (bI_e0 c16 : ¬ (¬ t < 0 ∧ ¬ 9999 < t)) z.1, FrN.I, hI_sI1⟩))⟩
    · refine v_iload_n C 3 rfl rfl dX5_report_19 ?_
      refine v_iload C 4 rfl dX5_report_20 ?_
      refine v_callSi C (st := [.ref (am 0)]) [.int x, .int y] (c_X5_isPlace l S x y) ml_RX5_107 ms_yX5_isPlace rfl (Nat.le_of_ble_eq_true rfl) (Nat.le_of_ble_eq_true rfl) (Nat.le_of_ble_eq_true rfl) (Nat.le_of_ble_eq_true rfl) (Nat.le_of_ble_eq_true rfl) dX5_report_22 (fun r u h => ?_) _ rfl
      obtain ⟨rfl, rfl⟩ := h
      refine v_if_ne C 32 (by decide) dX5_report_25 (fun c25 => ?_) (fun c25 => ?_)
      · refine v_aload_n C 0 rfl rfl dX5_report_32 ?_
        refine v_getI C (nI (cn q 0)) fl_RX5_111 hA.k0 hV.v50 dX5_report_33 ?_
        refine v_iconst C 4 (by decide) dX5_report_36 ?_
        refine v_icmp_ne C 44 (by decide) dX5_report_37 (fun c37 => ?_) (fun c37 => ?_)
        · refine v_iconst C 0 (by decide) dX5_report_44 ?_
          refine v_putI C fl_RX5_62 hA.k0 rfl rfl dX5_report_45 ?_
          refine v_aload_n C 0 rfl rfl dX5_report_48 ?_
          refine v_getI C 0 fl_RX5_62 hA.k0 hI_sI1 dX5_report_49 ?_
          refine v_if_le C 57 (by decide) dX5_report_52 (fun _ => ?_) (fun q => absurd (by decide) q)
          have h4 : cn q 0 < 4 := by have : ¬ cn q 0 = 4 := fun z => c37 (by rw [z]; rfl); omega
          have n67 : am 6 ≠ am 7 := fun z => absurd (hA.jj 6 (by decide) 7 (by decide) z) (by decide)
          have n68 : am 6 ≠ am 8 := fun z => absurd (hA.jj 6 (by decide) 8 (by decide) z) (by decide)
          have n78 : am 7 ≠ am 8 := fun z => absurd (hA.jj 7 (by decide) 8 (by decide) z) (by decide)
          refine v_aload_n C 0 rfl rfl dX5_report_57 ?_
          refine v_getR C (am 6) fl_RX5_28 hA.k0 hA.r47 dX5_report_58 ?_
          refine v_aload_n C 0 rfl rfl dX5_report_61 ?_
          refine v_getI C (nI (cn q 0)) fl_RX5_111 hA.k0 ((hI_sI2 (fun q => absurd q.1 (by decide))).trans hV.v50) dX5_report_62 ?_
          refine v_aload_n C 0 rfl rfl dX5_report_65 ?_
          refine v_iload_n C 1 rfl rfl dX5_report_66 ?_
          refine v_iload_n C 2 rfl rfl dX5_report_67 ?_
          refine v_callVi C (st := [.int (nI (cn q 0)), .ref (am 6)]) [.int (nI j), .int t] (c_X5_corrected l (sI S 61 (am 0) 0) am q hB ((FrN.I (v := 0)).toA hA) ((FrN.I (v := 0)).toV hA hV) j hj t (bI_n0 c16 : ¬ t < 0 ∧ ¬ 9999 < t)) ml_RX5_92 mi_yX5_corrected hA.k0 (by decide) (by decide +kernel) rfl (Nat.le_of_ble_eq_true rfl) (Nat.le_of_ble_eq_true rfl) (Nat.le_of_ble_eq_true rfl) (Nat.le_of_ble_eq_true rfl) (Nat.le_of_ble_eq_true rfl) dX5_report_68 (fun r u h => ?_) _ rfl
          obtain ⟨rfl, rfl⟩ := h
          refine v_iastj C (cn q 0) (nI_clamp (by omega)) hA.k6 (vpi hA.n6 (vp_in_nI h4 (by decide))) dX5_report_71 ?_
          refine v_aload_n C 0 rfl rfl dX5_report_72 ?_
          refine v_getR C (am 7) fl_RX5_31 hA.k0 hA.r48 dX5_report_73 ?_
          refine v_aload_n C 0 rfl rfl dX5_report_76 ?_
          refine v_getI C (nI (cn q 0)) fl_RX5_111 hA.k0 (show hI (sI S 61 (am 0) 0) 50 (am 0) = (nI (cn q 0)) from ((hI_sI2 (fun q => absurd q.1 (by decide))).trans hV.v50)) dX5_report_77 ?_
          refine v_iload_n C 3 rfl rfl dX5_report_80 ?_
          refine v_iastj C (cn q 0) (nI_clamp (by omega)) hA.k7 (vpi hA.n7 (vp_in_nI h4 (by decide))) dX5_report_81 ?_
          refine v_aload_n C 0 rfl rfl dX5_report_82 ?_
          refine v_getR C (am 8) fl_RX5_34 hA.k0 hA.r49 dX5_report_83 ?_
          refine v_aload_n C 0 rfl rfl dX5_report_86 ?_
          refine v_getI C (nI (cn q 0)) fl_RX5_111 hA.k0 (show hI (sI S 61 (am 0) 0) 50 (am 0) = (nI (cn q 0)) from ((hI_sI2 (fun q => absurd q.1 (by decide))).trans hV.v50)) dX5_report_87 ?_
          refine v_iload C 4 rfl dX5_report_90 ?_
          refine v_iastj C (cn q 0) (nI_clamp (by omega)) hA.k8 (vpi hA.n8 (vp_in_nI h4 (by decide))) dX5_report_92 ?_
          refine v_aload_n C 0 rfl rfl dX5_report_93 ?_
          refine v_dup C rfl dX5_report_94 ?_
          refine v_getI C (nI (cn q 0)) fl_RX5_111 hA.k0 (show hI (sI S 61 (am 0) 0) 50 (am 0) = (nI (cn q 0)) from ((hI_sI2 (fun q => absurd q.1 (by decide))).trans hV.v50)) dX5_report_95 ?_
          refine v_iconst C 1 (by decide) dX5_report_98 ?_
          refine v_iadd C dX5_report_99 ?_
          refine v_putI C fl_RX5_111 hA.k0 rfl rfl dX5_report_100 ?_
          refine v_aload_n C 0 rfl rfl dX5_report_103 ?_
          refine v_getI C ((nI (cn q 0)) + 1) fl_RX5_111 hA.k0 hI_sI1 dX5_report_104 ?_
          refine v_iconst C 1 (by decide) dX5_report_107 ?_
          refine v_isub C dX5_report_108 ?_
          rw [show nI (cn q 0) + 1 - 1 = nI (cn q 0) from by rw [nI_1, nI_iO, nI_iO, show (1 : Int32) = iO 1 from rfl, iO_sub]; congr 1; omega]
          exact v_iret C hRT (Nat.le_of_ble_eq_true rfl) (Nat.le_of_ble_eq_true rfl) dX5_report_109 ⟨_, rfl, Or.inl ⟨j, hj, rfl, ⟨(bI_n0 c16 : ¬ t < 0 ∧ ¬ 9999 < t), bI_pl c25⟩, h4, hA.of rfl rfl rfl rfl, NV.rep hA hV (fun f a h1 h2 => (hI_sI2 (fun z => h2 z.1)).trans (hI_sI2 (fun z => h1 z.1))) (hI_sI1.trans (nI_1 _)) (fun _ => rfl) (fun a h1 h2 h3 => (aI_tI2 h3).trans ((aI_tI2 h2).trans (aI_tI2 h1))) (fun r => by show aI (tI (tI (tI S (am 6) (cn q 0) (iO (crt q j t.toInt))) (am 7) (cn q 0) x) (am 8) (cn q 0) y) (am 6) r = _; rw [aI_tI2 n68, aI_tI2 n67, aI_tI1]; rfl) (fun r => by show aI (tI (tI (tI S (am 6) (cn q 0) (iO (crt q j t.toInt))) (am 7) (cn q 0) x) (am 8) (cn q 0) y) (am 7) r = _; rw [aI_tI2 n78, aI_tI1, aI_tI2 (Ne.symm n67)]; exact congrArg (fun z => if r = cn q 0 then z else aI S (am 7) r) (iO_of x).symm) (fun r => by show aI (tI (tI (tI S (am 6) (cn q 0) (iO (crt q j t.toInt))) (am 7) (cn q 0) x) (am 8) (cn q 0) y) (am 8) r = _; rw [aI_tI1, aI_tI2 (Ne.symm n78), aI_tI2 (Ne.symm n68)]; exact congrArg (fun z => if r = cn q 0 then z else aI S (am 8) r) (iO_of y).symm), (hI_sI2 (fun z => absurd z.1 (by decide))).trans hI_sI1, rfl⟩⟩
        · refine v_iconst C 3 (by decide) dX5_report_40 ?_
          refine v_goto C 45 (by decide) dX5_report_41 ?_
          refine v_putI C fl_RX5_62 hA.k0 rfl rfl dX5_report_45 ?_
          refine v_aload_n C 0 rfl rfl dX5_report_48 ?_
          refine v_getI C 3 fl_RX5_62 hA.k0 hI_sI1 dX5_report_49 ?_
          refine v_if_le C 57 (by decide) dX5_report_52 (fun q => absurd q (by decide)) (fun _ => ?_)
          refine v_iconst C (-1) (by decide) dX5_report_55 ?_
          exact v_iret C hRT (Nat.le_of_ble_eq_true rfl) (Nat.le_of_ble_eq_true rfl) dX5_report_56 ⟨_, rfl, Or.inr (Or.inr (Or.inr ⟨j, hj, rfl, ⟨(bI_n0 c16 : ¬ t < 0 ∧ ¬ 9999 < t), bI_pl c25⟩, nI_inj (b := 4) c37 (by omega) (by decide), FrN.I, hI_sI1⟩))⟩
      · refine v_iconst C 2 (by decide) dX5_report_28 ?_
        refine v_goto C 45 (by decide) dX5_report_29 ?_
        refine v_putI C fl_RX5_62 hA.k0 rfl rfl dX5_report_45 ?_
        refine v_aload_n C 0 rfl rfl dX5_report_48 ?_
        refine v_getI C 2 fl_RX5_62 hA.k0 hI_sI1 dX5_report_49 ?_
        refine v_if_le C 57 (by decide) dX5_report_52 (fun q => absurd q (by decide)) (fun _ => ?_)
        refine v_iconst C (-1) (by decide) dX5_report_55 ?_
        exact v_iret C hRT (Nat.le_of_ble_eq_true rfl) (Nat.le_of_ble_eq_true rfl) dX5_report_56 ⟨_, rfl, Or.inr (Or.inr (Or.inl ⟨j, hj, rfl, fun z => (bI_e0 c25 : ¬ ((¬ x < (-999) ∧ ¬ 999 < x) ∧ (¬ y < (-999) ∧ ¬ 999 < y))) z.2, FrN.I, hI_sI1⟩))⟩
  · refine v_iconst C 1 (by decide) dX5_report_8 ?_
    refine v_goto C 45 (by decide) dX5_report_9 ?_
    refine v_putI C fl_RX5_62 hA.k0 rfl rfl dX5_report_45 ?_
    refine v_aload_n C 0 rfl rfl dX5_report_48 ?_
    refine v_getI C 1 fl_RX5_62 hA.k0 hI_sI1 dX5_report_49 ?_
    refine v_if_le C 57 (by decide) dX5_report_52 (fun q => absurd q (by decide)) (fun _ => ?_)
    refine v_iconst C (-1) (by decide) dX5_report_55 ?_
    exact v_iret C hRT (Nat.le_of_ble_eq_true rfl) (Nat.le_of_ble_eq_true rfl) dX5_report_56 ⟨_, rfl, Or.inr (Or.inl ⟨(bI_e0 c5 : ¬ (¬ i < 0 ∧ i < 4)), FrN.I, hI_sI1⟩)⟩
