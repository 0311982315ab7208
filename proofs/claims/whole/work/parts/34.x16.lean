def isPl (x : Int32) : Prop := ¬ x < (-999) ∧ ¬ 999 < x
def repW (a b c : Int) : Nat → Int
  | 0 => a
  | 1 => b
  | _ => c
/-- one report more -/
def repQ (q : AS) (w : Nat → Int) : AS := (fun k => if k = 0 then cn q 0 + 1 else cn q k, fun i r k => if i = 2 ∧ r = cn q 0 then w k else zz q i r k)
theorem rep_cn (q : AS) (w : Nat → Int) {k : Nat} (h : k ≠ 0) : cn (repQ q w) k = cn q k := if_neg h
theorem rep_cn0 (q : AS) (w : Nat → Int) : cn (repQ q w) 0 = cn q 0 + 1 := rfl
theorem rep_zz (q : AS) (w : Nat → Int) {i r k : Nat} (h : ¬ (i = 2 ∧ r = cn q 0)) : zz (repQ q w) i r k = zz q i r k := if_neg h
theorem rep_zz2 (q : AS) (w : Nat → Int) (k : Nat) : zz (repQ q w) 2 (cn q 0) k = w k := if_pos ⟨rfl, rfl⟩
theorem XV.rep {S T : HS} {ad : AD} {q : AS} {w : Nat → Int} (hA : XA S ad (cn q 1)) (hV : XV S ad q) (h4 : cn q 0 < 4) (h30 : hI T 30 (ad 0 0) = nI (cn q 0 + 1)) (hw : ∀ k, k < 3 → hI T (13 + k) (ad 4 (cn q 0)) = iO (w k))
    (fr : ∀ f a, f ≠ 30 → ¬ ((f = 13 ∨ f = 14 ∨ f = 15) ∧ a = ad 4 (cn q 0)) → hI T f a = hI S f a) (fa : ∀ a, aI T a = aI S a) : XV T ad (repQ q w) := by
  have c1 : ∀ k, k ≠ 0 → cn (repQ q w) k = cn q k := fun k hk => rep_cn q w hk
  have z1 : ∀ i, i ≠ 2 → ∀ j' k, zz (repQ q w) i j' k = zz q i j' k := fun i hi j' k => rep_zz q w (fun z => hi z.1)
  have r1 : ∀ g, g ≠ 30 → ¬ (g = 13 ∨ g = 14 ∨ g = 15) → ∀ a, hI T g a = hI S g a := fun g h1 h2 a => fr g a h1 (fun z => h2 z.1)
  refine ⟨h30, by rw [r1 _ (by decide) (by decide), c1 1 (by decide)]; exact hV.v32, by rw [r1 _ (by decide) (by decide), c1 2 (by decide)]; exact hV.v39, by rw [r1 _ (by decide) (by decide), c1 3 (by decide)]; exact hV.v40, by rw [r1 _ (by decide) (by decide), z1 0 (by decide)]; exact hV.v34, by rw [r1 _ (by decide) (by decide), z1 0 (by decide)]; exact hV.v35, by rw [r1 _ (by decide) (by decide), z1 0 (by decide)]; exact hV.v36, by rw [r1 _ (by decide) (by decide), z1 0 (by decide)]; exact hV.v37, by rw [r1 _ (by decide) (by decide), z1 0 (by decide)]; exact hV.v38,
    fun i hi => by rw [r1 _ (by decide) (by decide), c1 _ (by omega)]; exact hV.c0 i hi, fun i hi k hk => by rw [r1 _ (by omega) (by omega), z1 1 (by decide)]; exact hV.c1 i hi k hk, fun i hi k hk => ?_, fun i hi => ?_, fun i hi k hk => ?_, fun i hi => ?_, fun i hi => ?_, fun i hi => ?_, fun i hi j hj => ?_⟩
  · by_cases e : i = cn q 0
    · rw [e, rep_zz2]; exact hw k hk
    · rw [fr _ _ (by omega) (fun z => e (hA.j4 i hi _ h4 z.2)), rep_zz q w (fun z => e z.2)]; exact hV.p i hi k hk
  all_goals rw [c1 1 (by decide)] at hi
  · rw [r1 _ (by omega) (by omega)]; exact hV.t16 i hi
  · rw [r1 _ (by omega) (by omega), z1 3 (by decide)]; exact hV.tv i hi k hk
  · rw [r1 _ (by omega) (by omega), z1 3 (by decide)]; exact hV.t24 i hi
  · rw [r1 _ (by omega) (by omega), z1 3 (by decide), z1 3 (by decide)]; exact hV.t25 i hi
  · rw [r1 _ (by omega) (by omega), c1 _ (by omega)]; exact hV.t27 i hi
  · rw [c1 _ (by omega)] at hj
    rw [fa, z1 4 (by decide)]; exact hV.sg i hi j hj
theorem rep_BI {q : AS} {w : Nat → Int} (hB : BI q) (h4 : cn q 0 < 4) (h : bd (w 0) (-20000) 30000 ∧ bd (w 1) (-999) 999 ∧ bd (w 2) (-999) 999) : BI (repQ q w) := by
  have c1 : ∀ k, k ≠ 0 → cn (repQ q w) k = cn q k := fun k hk => rep_cn q w hk
  have z1 : ∀ i, i ≠ 2 → ∀ j' k, zz (repQ q w) i j' k = zz q i j' k := fun i hi j' k => rep_zz q w (fun z => hi z.1)
  refine ⟨by rw [rep_cn0]; omega, by rw [c1 1 (by decide)]; exact hB.b1, fun i hi => by rw [c1 _ (by omega)]; exact hB.bc i hi, fun i hi h1 => ?_, fun i hi h1 => ?_, fun r hr => ?_, fun t ht => ?_, fun t ht => ?_, by rw [z1 0 (by decide)]; exact hB.g0, by rw [z1 0 (by decide)]; exact hB.g1, by rw [z1 0 (by decide)]; exact hB.g2, by rw [z1 0 (by decide)]; exact hB.g3, by rw [z1 0 (by decide)]; exact hB.g4, ?_, fun t ht => ?_⟩
  · rw [c1 _ (by omega)] at h1
    rw [z1 1 (by decide), z1 1 (by decide)]; exact hB.bl i hi h1
  · rw [c1 _ (by omega)] at h1
    rw [z1 1 (by decide), z1 1 (by decide), z1 1 (by decide), z1 1 (by decide)]; exact hB.be i hi h1
  · rw [rep_cn0] at hr
    by_cases e : r = cn q 0
    · rw [e, rep_zz2, rep_zz2, rep_zz2]; exact h
    · have zq : ∀ k, zz (repQ q w) 2 r k = zz q 2 r k := fun k => rep_zz q w (fun z => e z.2)
      rw [zq, zq, zq]; exact hB.br r (by omega)
  · rw [c1 1 (by decide)] at ht
    rw [z1 3 (by decide), z1 3 (by decide), z1 3 (by decide), z1 3 (by decide), z1 3 (by decide)]; exact hB.bt t ht
  · rw [c1 1 (by decide)] at ht
    rw [z1 3 (by decide)]; exact hB.bs t ht
  · rw [c1 1 (by decide), show liveP (repQ q w) = liveP q from funext fun t => by unfold liveP; rw [z1 3 (by decide)]]
    exact hB.bv
  · rw [c1 1 (by decide)] at ht
    rw [c1 _ (by omega)]; exact hB.bh t ht
theorem nlt_no4 {a : Nat} (h : ¬ nI a < 4) (ha : a < 2 ^ 31) : 4 ≤ a := by
  rcases Nat.lt_or_ge a 4 with z | z
  · exact absurd (nI_ltn (b := 4) z (by decide)) h
  · exact z
theorem nlt_of4 {a : Nat} (h : nI a < 4) (ha : a < 2 ^ 31) : a < 4 := by
  rcases Nat.lt_or_ge a 4 with z | z
  · exact z
  · exact absurd h (nI_nlt (b := 4) z ha)
def rptQ (q : AS) (j : Nat) (t x y : Int32) : AS := repQ q (repW (crt q j t.toInt) x.toInt y.toInt)
set_option maxRecDepth 100000 in
set_option maxHeartbeats 4000000 in
theorem c_X4_report (l : Launch) (hlf : l.stackTraces = false) (S : HS) (ad : AD) (q : AS) (hB : BI q) (hA : XA S ad (cn q 1)) (hV : XV S ad q) (i t x y : Int32) : cX l yX4_report cX4_report 8 (Option.some Jvm.ClassFile.FieldType.int) 12 [.ref (ad 0 0), .int i, .int t, .int x, .int y] S (pI fun r u => ∃ j, j < 4 ∧ i = nI j ∧ (isTm t ∧ isPl x ∧ isPl y) ∧ cn q 0 < 4 ∧ XA u ad (cn q 1) ∧ XV u ad (rptQ q j t x y) ∧ nI (cn q 0) = r) (fun E u => S = u ∧ ((E = eIO ∧ ¬ isSn i) ∨ (E = eIA ∧ ∃ j, j < 4 ∧ i = nI j ∧ ¬ (isTm t ∧ isPl x ∧ isPl y)) ∨ (E = eIS ∧ ∃ j, j < 4 ∧ i = nI j ∧ (isTm t ∧ isPl x ∧ isPl y) ∧ cn q 0 = 4))) 3 18 := by
  refine cX_intro (by decide +kernel) cd_X4_report (Nat.le_of_ble_eq_true rfl) ?_
  intro pP eE sS mM aA bB tT cC G A C hRT hnt
  refine V.lvs (lv2 := [(0, .ref (ad 0 0)), (1, .int i), (2, .int t), (3, .int x), (4, .int y)]) rfl ?_
  have h04 := hB.b0
  refine v_aload_n C 0 rfl rfl dX4_report_0 ?_
  refine v_iload_n C 1 rfl rfl dX4_report_1 ?_
  refine v_xcallVq C (st := []) [.int i] (c_X4_clockOf l hlf S ad (cn q 1) i hA) ml_RX4_52 mi_yX4_clockOf hA.k0 (by decide) (by decide +kernel) rfl (Nat.le_of_ble_eq_true rfl) (Nat.le_of_ble_eq_true rfl) (Nat.le_of_ble_eq_true rfl) (Nat.le_of_ble_eq_true rfl) (Nat.le_of_ble_eq_true rfl) dX4_report_2 (fun E u h => ?_) (fun r u h => ?_) _ rfl
  · obtain ⟨rfl, rfl, hx⟩ := h
    exact vx_end C hnt (Nat.le_of_ble_eq_true rfl) (Nat.le_of_ble_eq_true rfl) ⟨rfl, Or.inl ⟨rfl, sn_not hx⟩⟩
  obtain ⟨j, hj, rfl, rfl, rfl⟩ := h
  refine v_astore C [(5, .ref (ad 2 j)), (0, .ref (ad 0 0)), (1, .int (nI j)), (2, .int t), (3, .int x), (4, .int y)] (by decide) rfl dX4_report_5 ?_
  refine v_iload_n C 3 rfl rfl dX4_report_7 ?_
  refine v_callSi C (st := []) [.int t] (c_X4_isSensorTime l S t) ml_RX4_56 ms_yX4_isSensorTime rfl (Nat.le_of_ble_eq_true rfl) (Nat.le_of_ble_eq_true rfl) (Nat.le_of_ble_eq_true rfl) (Nat.le_of_ble_eq_true rfl) (Nat.le_of_ble_eq_true rfl) dX4_report_8 (fun r u h => ?_) _ rfl
  obtain ⟨rfl, rfl⟩ := h
  refine v_if_eq C 33 (by decide) dX4_report_11 (fun c11 => ?_) (fun c11 => ?_)
  · refine v_iconst C 0 (by decide) dX4_report_33 ?_
    refine v_xcallSv C (st := []) [.int 0] (c_X4_refuseUnless l hlf S 0) ml_RX4_60 ms_yX4_refuseUnless rfl (Nat.le_of_ble_eq_true rfl) (Nat.le_of_ble_eq_true rfl) (Nat.le_of_ble_eq_true rfl) (Nat.le_of_ble_eq_true rfl) (Nat.le_of_ble_eq_true rfl) dX4_report_34 (fun E u h => ?_) (fun u h => ?_) _ rfl
    · obtain ⟨rfl, rfl, hx⟩ := h
      exact vx_end C hnt (Nat.le_of_ble_eq_true rfl) (Nat.le_of_ble_eq_true rfl) ⟨rfl, Or.inr (Or.inl ⟨rfl, j, hj, rfl, fun z => bI_e0 c11 z.1⟩)⟩
    exact absurd rfl h.2
  · refine v_iload_n C 4 rfl rfl dX4_report_14 ?_
    refine v_callSi C (st := []) [.int x] (c_X4_isPlace l S x) ml_RX4_90 ms_yX4_isPlace rfl (Nat.le_of_ble_eq_true rfl) (Nat.le_of_ble_eq_true rfl) (Nat.le_of_ble_eq_true rfl) (Nat.le_of_ble_eq_true rfl) (Nat.le_of_ble_eq_true rfl) dX4_report_15 (fun r u h => ?_) _ rfl
    obtain ⟨rfl, rfl⟩ := h
    refine v_if_eq C 33 (by decide) dX4_report_18 (fun c18 => ?_) (fun c18 => ?_)
    · refine v_iconst C 0 (by decide) dX4_report_33 ?_
      refine v_xcallSv C (st := []) [.int 0] (c_X4_refuseUnless l hlf S 0) ml_RX4_60 ms_yX4_refuseUnless rfl (Nat.le_of_ble_eq_true rfl) (Nat.le_of_ble_eq_true rfl) (Nat.le_of_ble_eq_true rfl) (Nat.le_of_ble_eq_true rfl) (Nat.le_of_ble_eq_true rfl) dX4_report_34 (fun E u h => ?_) (fun u h => ?_) _ rfl
      · obtain ⟨rfl, rfl, hx⟩ := h
        exact vx_end C hnt (Nat.le_of_ble_eq_true rfl) (Nat.le_of_ble_eq_true rfl) ⟨rfl, Or.inr (Or.inl ⟨rfl, j, hj, rfl, fun z => bI_e0 c18 z.2.1⟩)⟩
      exact absurd rfl h.2
    · refine v_iload C 5 rfl dX4_report_21 ?_
      refine v_callSi C (st := []) [.int y] (c_X4_isPlace l S y) ml_RX4_90 ms_yX4_isPlace rfl (Nat.le_of_ble_eq_true rfl) (Nat.le_of_ble_eq_true rfl) (Nat.le_of_ble_eq_true rfl) (Nat.le_of_ble_eq_true rfl) (Nat.le_of_ble_eq_true rfl) dX4_report_23 (fun r u h => ?_) _ rfl
      obtain ⟨rfl, rfl⟩ := h
      refine v_if_eq C 33 (by decide) dX4_report_26 (fun c26 => ?_) (fun c26 => ?_)
      · refine v_iconst C 0 (by decide) dX4_report_33 ?_
        refine v_xcallSv C (st := []) [.int 0] (c_X4_refuseUnless l hlf S 0) ml_RX4_60 ms_yX4_refuseUnless rfl (Nat.le_of_ble_eq_true rfl) (Nat.le_of_ble_eq_true rfl) (Nat.le_of_ble_eq_true rfl) (Nat.le_of_ble_eq_true rfl) (Nat.le_of_ble_eq_true rfl) dX4_report_34 (fun E u h => ?_) (fun u h => ?_) _ rfl
        · obtain ⟨rfl, rfl, hx⟩ := h
          exact vx_end C hnt (Nat.le_of_ble_eq_true rfl) (Nat.le_of_ble_eq_true rfl) ⟨rfl, Or.inr (Or.inl ⟨rfl, j, hj, rfl, fun z => bI_e0 c26 z.2.2⟩)⟩
        exact absurd rfl h.2
      · refine v_iconst C 1 (by decide) dX4_report_29 ?_
        refine v_goto C 34 (by decide) dX4_report_30 ?_
        refine v_xcallSv C (st := []) [.int 1] (c_X4_refuseUnless l hlf S 1) ml_RX4_60 ms_yX4_refuseUnless rfl (Nat.le_of_ble_eq_true rfl) (Nat.le_of_ble_eq_true rfl) (Nat.le_of_ble_eq_true rfl) (Nat.le_of_ble_eq_true rfl) (Nat.le_of_ble_eq_true rfl) dX4_report_34 (fun E u h => ?_) (fun u h => ?_) _ rfl
        · exact absurd h.2.2 (by decide)
        obtain ⟨rfl, hok⟩ := h
        by_cases h4 : cn q 0 < 4
        · have h49 := h4
          refine v_aload_n C 1 rfl rfl dX4_report_37 ?_
          refine v_aload_n C 1 rfl rfl dX4_report_38 ?_
          refine v_getI C (nI (cn q 0)) fl_RX4_93 hA.k0 hV.v30 dX4_report_39 ?_
          refine v_callVq C (st := []) [.int (nI (cn q 0))] (c_X4_rowAt_y l S ad (cn q 1) (cn q 0) hA h4) ml_RX4_96 mi_yX4_rowAt hA.k0 (by decide) (by decide +kernel) rfl (Nat.le_of_ble_eq_true rfl) (Nat.le_of_ble_eq_true rfl) (Nat.le_of_ble_eq_true rfl) (Nat.le_of_ble_eq_true rfl) (Nat.le_of_ble_eq_true rfl) dX4_report_42 (fun r u h => ?_) _ rfl
          obtain ⟨rfl, rfl⟩ := h
          refine v_astore C [(6, .ref (ad 4 (cn q 0))), (5, .ref (ad 2 j)), (0, .ref (ad 0 0)), (1, .int (nI j)), (2, .int t), (3, .int x), (4, .int y)] (by decide) rfl dX4_report_45 ?_
          refine v_aload C 0 rfl dX4_report_47 ?_
          refine v_ifnonnull C 62 (by decide) dX4_report_49 ?_
          refine v_aload_n C 2 rfl rfl dX4_report_62 ?_
          refine v_getI C (nI (cn q 0)) fl_RX4_93 hA.k0 hV.v30 dX4_report_63 ?_
          refine v_istore C [(7, .int (nI (cn q 0))), (6, .ref (ad 4 (cn q 0))), (5, .ref (ad 2 j)), (0, .ref (ad 0 0)), (1, .int (nI j)), (2, .int t), (3, .int x), (4, .int y)] (by decide) rfl dX4_report_66 ?_
          refine v_aload C 1 rfl dX4_report_68 ?_
          refine v_aload C 2 rfl dX4_report_70 ?_
          refine v_iload_n C 5 rfl rfl dX4_report_72 ?_
          refine v_callVi C (st := [.ref (ad 4 (cn q 0))]) [.int t] (c_X0_putRight l S (ad 2 j) t (hA.k2 j hj)) ml_RX4_75 mi_yX0_putRight (hA.k2 j hj) (by decide) (by decide +kernel) rfl (Nat.le_of_ble_eq_true rfl) (Nat.le_of_ble_eq_true rfl) (Nat.le_of_ble_eq_true rfl) (Nat.le_of_ble_eq_true rfl) (Nat.le_of_ble_eq_true rfl) dX4_report_73 (fun r u h => ?_) _ rfl
          obtain ⟨rfl, rfl⟩ := h
          rw [crt_O hV hB hj ((bI_n0 c11 : ¬ t < 0 ∧ ¬ 9999 < t))]
          refine v_iload_n C 6 rfl rfl dX4_report_76 ?_
          refine v_iload C 7 rfl dX4_report_77 ?_
          refine v_callVv C (st := []) [.int (iO (crt q j t.toInt)), .int x, .int y] (c_X2_fill l S (ad 4 (cn q 0)) (iO (crt q j t.toInt)) x y (hA.k4 _ h4)) ml_RX4_105 mi_yX2_fill (hA.k4 (cn q 0) h4) (by decide) (by decide +kernel) rfl (Nat.le_of_ble_eq_true rfl) (Nat.le_of_ble_eq_true rfl) (Nat.le_of_ble_eq_true rfl) (Nat.le_of_ble_eq_true rfl) (Nat.le_of_ble_eq_true rfl) dX4_report_79 (fun u h => ?_) _ rfl
          subst h
          refine v_aload_n C 3 rfl rfl dX4_report_82 ?_
          refine v_iload C 0 rfl dX4_report_83 ?_
          refine v_iconst C 1 (by decide) dX4_report_85 ?_
          refine v_iadd C dX4_report_86 ?_
          refine v_putI C fl_RX4_93 hA.k0 rfl rfl dX4_report_87 ?_
          refine v_iload C 0 rfl dX4_report_90 ?_
          exact v_xiret C hRT (Nat.le_of_ble_eq_true rfl) (Nat.le_of_ble_eq_true rfl) dX4_report_92 ⟨_, rfl, j, hj, rfl, ⟨(bI_n0 c11 : ¬ t < 0 ∧ ¬ 9999 < t), (bI_n0 c18 : ¬ x < (-999) ∧ ¬ 999 < x), (bI_n0 c26 : ¬ y < (-999) ∧ ¬ 999 < y)⟩, h4, hA.of rfl rfl rfl rfl, XV.rep hA hV h4 (hI_sI1.trans (nI_1 _)) (fun k hk => by rcases (show k = 0 ∨ k = 1 ∨ k = 2 by omega) with rfl | rfl | rfl <;> simp [hI_sI, repW, iO_of]) (fun f a h1 h2 => by simp only [hI_sI]; rw [if_neg (fun z => h1 z.1), if_neg (fun z => h2 ⟨Or.inr (Or.inr z.1), z.2⟩), if_neg (fun z => h2 ⟨Or.inr (Or.inl z.1), z.2⟩), if_neg (fun z => h2 ⟨Or.inl z.1, z.2⟩)]) (fun a => rfl), rfl⟩
        · have h49 := h4
          refine v_aload_n C 1 rfl rfl dX4_report_37 ?_
          refine v_aload_n C 1 rfl rfl dX4_report_38 ?_
          refine v_getI C (nI (cn q 0)) fl_RX4_93 hA.k0 hV.v30 dX4_report_39 ?_
          refine v_callVq C (st := []) [.int (nI (cn q 0))] (c_X4_rowAt_n l S ad (cn q 1) (nI (cn q 0)) hA (Or.inr (fun z => h4 (nlt_of4 z (by omega))))) ml_RX4_96 mi_yX4_rowAt hA.k0 (by decide) (by decide +kernel) rfl (Nat.le_of_ble_eq_true rfl) (Nat.le_of_ble_eq_true rfl) (Nat.le_of_ble_eq_true rfl) (Nat.le_of_ble_eq_true rfl) (Nat.le_of_ble_eq_true rfl) dX4_report_42 (fun r u h => ?_) _ rfl
          obtain ⟨rfl, rfl⟩ := h
          refine v_astoreN C [(6, .null), (5, .ref (ad 2 j)), (0, .ref (ad 0 0)), (1, .int (nI j)), (2, .int t), (3, .int x), (4, .int y)] (by decide) rfl dX4_report_45 ?_
          refine v_aloadN C 0 rfl dX4_report_47 ?_
          refine v_ifnonnullN C dX4_report_49 ?_
          exact v_throwS C hlf tl_100_102 hnt (Nat.le_of_ble_eq_true rfl) (Nat.le_of_ble_eq_true rfl) (Nat.le_of_ble_eq_true rfl) (Nat.le_of_ble_eq_true rfl) (Nat.le_of_ble_eq_true rfl) (Nat.le_of_ble_eq_true rfl) (Nat.le_of_ble_eq_true rfl) ⟨rfl, Or.inr (Or.inr ⟨rfl, j, hj, rfl, ⟨(bI_n0 c11 : ¬ t < 0 ∧ ¬ 9999 < t), (bI_n0 c18 : ¬ x < (-999) ∧ ¬ 999 < x), (bI_n0 c26 : ¬ y < (-999) ∧ ¬ 999 < y)⟩, by omega⟩)⟩ dX4_report_52 dX4_report_55 dX4_report_56 dX4_report_58 dX4_report_61
theorem XV.clr {S : HS} {ad : AD} {q : AS} (hA : XA S ad (cn q 1)) (hV : XV S ad q) : XV (sI S 30 (ad 0 0) 0) ad (cs q 0 0) := by
  have r1 : ∀ f, f ≠ 30 → ∀ a, hI (sI S 30 (ad 0 0) 0) f a = hI S f a := fun f hf a => hI_sI2 (fun z => hf z.1)
  have c : ∀ k, k ≠ 0 → cn (cs q 0 0) k = cn q k := fun k hk => by rw [cn_cs, if_neg hk]
  refine ⟨hI_sI1, by rw [r1 _ (by decide), c 1 (by decide)]; exact hV.v32, by rw [r1 _ (by decide), c 2 (by decide)]; exact hV.v39, by rw [r1 _ (by decide), c 3 (by decide)]; exact hV.v40, by rw [r1 _ (by decide)]; exact hV.v34, by rw [r1 _ (by decide)]; exact hV.v35, by rw [r1 _ (by decide)]; exact hV.v36, by rw [r1 _ (by decide)]; exact hV.v37, by rw [r1 _ (by decide)]; exact hV.v38,
    fun i hi => by rw [r1 _ (by omega), c _ (by omega)]; exact hV.c0 i hi, fun i hi k hk => by rw [r1 _ (by omega)]; exact hV.c1 i hi k hk, fun i hi k hk => by rw [r1 _ (by omega)]; exact hV.p i hi k hk, fun i hi => ?_, fun i hi k hk => ?_, fun i hi => ?_, fun i hi => ?_, fun i hi => ?_, fun i hi j hj => ?_⟩
  all_goals rw [c 1 (by decide)] at hi
  · rw [r1 _ (by omega)]; exact hV.t16 i hi
  · rw [r1 _ (by omega)]; exact hV.tv i hi k hk
  · rw [r1 _ (by omega)]; exact hV.t24 i hi
  · rw [r1 _ (by omega)]; exact hV.t25 i hi
  · rw [r1 _ (by omega), c _ (by omega)]; exact hV.t27 i hi
  · rw [c _ (by omega)] at hj; exact hV.sg i hi j hj
theorem clr_BI {q : AS} (hB : BI q) : BI (cs q 0 0) := by
  have c : ∀ k, k ≠ 0 → cn (cs q 0 0) k = cn q k := fun k hk => by rw [cn_cs, if_neg hk]
  refine ⟨Nat.zero_le _, by rw [c 1 (by decide)]; exact hB.b1, fun i hi => by rw [c _ (by omega)]; exact hB.bc i hi, fun i hi h => by rw [c _ (by omega)] at h; exact hB.bl i hi h, fun i hi h => by rw [c _ (by omega)] at h; exact hB.be i hi h, fun r hr => absurd hr (Nat.not_lt_zero r), fun t ht => by rw [c 1 (by decide)] at ht; exact hB.bt t ht, fun t ht => by rw [c 1 (by decide)] at ht; exact hB.bs t ht, hB.g0, hB.g1, hB.g2, hB.g3, hB.g4, by rw [c 1 (by decide)]; exact hB.bv, fun t ht => by rw [c 1 (by decide)] at ht; rw [c _ (by omega)]; exact hB.bh t ht⟩
set_option maxRecDepth 100000 in
set_option maxHeartbeats 4000000 in
theorem c_X4_clearBatch (l : Launch) (S : HS) (ad : AD) (q : AS) (hB : BI q) (hA : XA S ad (cn q 1)) (hV : XV S ad q)  : cM l yX4_clearBatch cX4_clearBatch 2 (Option.some Jvm.ClassFile.FieldType.int) 2 [.ref (ad 0 0)] S (pI fun r u => XA u ad (cn q 1) ∧ XV u ad (cs q 0 0) ∧ nI (cn q 0) = r) 0 0 := by
  refine cM_intro (by decide +kernel) cd_X4_clearBatch (Nat.le_of_ble_eq_true rfl) ?_
  intro pP eE sS mM aA bB tT cC G A C hRT hin
  refine V.lvs (lv2 := [(0, .ref (ad 0 0))]) rfl ?_
  refine v_aload_n C 0 rfl rfl dX4_clearBatch_0 ?_
  refine v_getI C (nI (cn q 0)) fl_RX4_93 hA.k0 hV.v30 dX4_clearBatch_1 ?_
  refine v_istore_n C [(1, .int (nI (cn q 0))), (0, .ref (ad 0 0))] (by decide) rfl rfl dX4_clearBatch_4 ?_
  refine v_aload_n C 1 rfl rfl dX4_clearBatch_5 ?_
  refine v_iconst C 0 (by decide) dX4_clearBatch_6 ?_
  refine v_putI C fl_RX4_93 hA.k0 rfl rfl dX4_clearBatch_7 ?_
  refine v_iload_n C 0 rfl rfl dX4_clearBatch_10 ?_
  exact v_iret C hRT (Nat.le_of_ble_eq_true rfl) (Nat.le_of_ble_eq_true rfl) dX4_clearBatch_11 ⟨_, rfl, hA.I, XV.clr hA hV, rfl⟩
set_option maxRecDepth 100000 in
set_option maxHeartbeats 4000000 in
theorem c_X4_batch (l : Launch) (S : HS) (ad : AD) (q : AS) (hB : BI q) (hA : XA S ad (cn q 1)) (hV : XV S ad q)  : cM l yX4_batch cX4_batch 1 (Option.some Jvm.ClassFile.FieldType.int) 2 [.ref (ad 0 0)] S (pI fun r u => nI (cn q 0) = r ∧ S = u) 0 0 := by
  refine cM_intro (by decide +kernel) cd_X4_batch (Nat.le_of_ble_eq_true rfl) ?_
  intro pP eE sS mM aA bB tT cC G A C hRT hin
  refine V.lvs (lv2 := [(0, .ref (ad 0 0))]) rfl ?_
  refine v_aload_n C 0 rfl rfl dX4_batch_0 ?_
  refine v_getI C (nI (cn q 0)) fl_RX4_93 hA.k0 hV.v30 dX4_batch_1 ?_
  exact v_iret C hRT (Nat.le_of_ble_eq_true rfl) (Nat.le_of_ble_eq_true rfl) dX4_batch_4 ⟨_, rfl, rfl, rfl⟩
set_option maxRecDepth 100000 in
set_option maxHeartbeats 4000000 in
theorem c_X4_tracks (l : Launch) (S : HS) (ad : AD) (q : AS) (hB : BI q) (hA : XA S ad (cn q 1)) (hV : XV S ad q)  : cM l yX4_tracks cX4_tracks 1 (Option.some Jvm.ClassFile.FieldType.int) 2 [.ref (ad 0 0)] S (pI fun r u => nI (cn q 1) = r ∧ S = u) 0 0 := by
  refine cM_intro (by decide +kernel) cd_X4_tracks (Nat.le_of_ble_eq_true rfl) ?_
  intro pP eE sS mM aA bB tT cC G A C hRT hin
  refine V.lvs (lv2 := [(0, .ref (ad 0 0))]) rfl ?_
  refine v_aload_n C 0 rfl rfl dX4_tracks_0 ?_
  refine v_getI C (nI (cn q 1)) fl_RX4_184 hA.k0 hV.v32 dX4_tracks_1 ?_
  exact v_iret C hRT (Nat.le_of_ble_eq_true rfl) (Nat.le_of_ble_eq_true rfl) dX4_tracks_4 ⟨_, rfl, rfl, rfl⟩
set_option maxRecDepth 100000 in
set_option maxHeartbeats 4000000 in
theorem c_X4_dropped (l : Launch) (S : HS) (ad : AD) (q : AS) (hB : BI q) (hA : XA S ad (cn q 1)) (hV : XV S ad q)  : cM l yX4_dropped cX4_dropped 1 (Option.some Jvm.ClassFile.FieldType.int) 2 [.ref (ad 0 0)] S (pI fun r u => nI (cn q 3) = r ∧ S = u) 0 0 := by
  refine cM_intro (by decide +kernel) cd_X4_dropped (Nat.le_of_ble_eq_true rfl) ?_
  intro pP eE sS mM aA bB tT cC G A C hRT hin
  refine V.lvs (lv2 := [(0, .ref (ad 0 0))]) rfl ?_
  refine v_aload_n C 0 rfl rfl dX4_dropped_0 ?_
  refine v_getI C (nI (cn q 3)) fl_RX4_250 hA.k0 hV.v40 dX4_dropped_1 ?_
  exact v_iret C hRT (Nat.le_of_ble_eq_true rfl) (Nat.le_of_ble_eq_true rfl) dX4_dropped_4 ⟨_, rfl, rfl, rfl⟩
set_option maxRecDepth 100000 in
set_option maxHeartbeats 4000000 in
theorem c_X4_liveTracks (l : Launch) (S : HS) (ad : AD) (q : AS) (hB : BI q) (hA : XA S ad (cn q 1)) (hV : XV S ad q)  : cM l yX4_liveTracks cX4_liveTracks 1 (Option.some Jvm.ClassFile.FieldType.int) 5 [.ref (ad 0 0)] S (pI fun r u => nI (lcn q) = r ∧ S = u) 0 0 := by
  refine cM_intro (by decide +kernel) cd_X4_liveTracks (Nat.le_of_ble_eq_true rfl) ?_
  intro pP eE sS mM aA bB tT cC G A C hRT hin
  refine V.lvs (lv2 := [(0, .ref (ad 0 0))]) rfl ?_
  refine v_aload_n C 0 rfl rfl dX4_liveTracks_0 ?_
  refine v_callVi C (st := []) [] (c_X4_countLive l S ad q hA hV) ml_RX4_247 mi_yX4_countLive hA.k0 (by decide) (by decide +kernel) rfl (Nat.le_of_ble_eq_true rfl) (Nat.le_of_ble_eq_true rfl) (Nat.le_of_ble_eq_true rfl) (Nat.le_of_ble_eq_true rfl) (Nat.le_of_ble_eq_true rfl) dX4_liveTracks_1 (fun r u h => ?_) _ rfl
  obtain ⟨rfl, rfl⟩ := h
  exact v_iret C hRT (Nat.le_of_ble_eq_true rfl) (Nat.le_of_ble_eq_true rfl) dX4_liveTracks_4 ⟨_, rfl, rfl, rfl⟩
theorem nI_inj {a b : Nat} (h : nI a = nI b) (ha : a < 2 ^ 31) (hb : b < 2 ^ 31) : a = b := by
  have h1 := nge (a := a) (b := b) (by rw [h]; exact Int32.le_refl _) hb
  have h2 := nge (a := b) (b := a) (by rw [h]; exact Int32.le_refl _) ha
  omega
set_option maxRecDepth 100000 in
set_option maxHeartbeats 4000000 in
theorem c_X4_isBalanced (l : Launch) (S : HS) (ad : AD) (q : AS) (hB : BI q) (hA : XA S ad (cn q 1)) (hV : XV S ad q)  : cM l yX4_isBalanced cX4_isBalanced 1 (Option.some Jvm.ClassFile.FieldType.boolean) 6 [.ref (ad 0 0)] S (pI fun r u => bI (nI (cn q 2) = nI (sgc q 110 (cn q 1)) + nI (sgc q 104 (cn q 1)) + nI (cn q 3)) = r ∧ S = u) 0 0 := by
  refine cM_intro (by decide +kernel) cd_X4_isBalanced (Nat.le_of_ble_eq_true rfl) ?_
  intro pP eE sS mM aA bB tT cC G A C hRT hin
  refine V.lvs (lv2 := [(0, .ref (ad 0 0))]) rfl ?_
  refine v_aload_n C 0 rfl rfl dX4_isBalanced_0 ?_
  refine v_getI C (nI (cn q 2)) fl_RX4_127 hA.k0 hV.v39 dX4_isBalanced_1 ?_
  refine v_aload_n C 0 rfl rfl dX4_isBalanced_4 ?_
  refine v_bipush C 110 (by decide) dX4_isBalanced_5 ?_
  refine v_callVi C (st := [.int (nI (cn q 2))]) [.int 110] (c_X4_countSigns l S ad q 110 hA hV hB) ml_RX4_341 mi_yX4_countSigns hA.k0 (by decide) (by decide +kernel) rfl (Nat.le_of_ble_eq_true rfl) (Nat.le_of_ble_eq_true rfl) (Nat.le_of_ble_eq_true rfl) (Nat.le_of_ble_eq_true rfl) (Nat.le_of_ble_eq_true rfl) dX4_isBalanced_7 (fun r u h => ?_) _ rfl
  obtain ⟨rfl, rfl⟩ := h
  refine v_aload_n C 0 rfl rfl dX4_isBalanced_10 ?_
  refine v_bipush C 104 (by decide) dX4_isBalanced_11 ?_
  refine v_callVi C (st := [.int (nI (sgc q 110 (cn q 1))), .int (nI (cn q 2))]) [.int 104] (c_X4_countSigns l S ad q 104 hA hV hB) ml_RX4_341 mi_yX4_countSigns hA.k0 (by decide) (by decide +kernel) rfl (Nat.le_of_ble_eq_true rfl) (Nat.le_of_ble_eq_true rfl) (Nat.le_of_ble_eq_true rfl) (Nat.le_of_ble_eq_true rfl) (Nat.le_of_ble_eq_true rfl) dX4_isBalanced_13 (fun r u h => ?_) _ rfl
  obtain ⟨rfl, rfl⟩ := h
  refine v_iadd C dX4_isBalanced_16 ?_
  refine v_aload_n C 0 rfl rfl dX4_isBalanced_17 ?_
  refine v_getI C (nI (cn q 3)) fl_RX4_250 hA.k0 hV.v40 dX4_isBalanced_18 ?_
  refine v_iadd C dX4_isBalanced_21 ?_
  refine v_icmp_ne C 29 (by decide) dX4_isBalanced_22 (fun c22 => ?_) (fun c22 => ?_)
  · refine v_iconst C 0 (by decide) dX4_isBalanced_29 ?_
    exact v_zret C rfl hRT (Nat.le_of_ble_eq_true rfl) (Nat.le_of_ble_eq_true rfl) dX4_isBalanced_30 ⟨_, rfl, bI0 c22, rfl⟩
  · refine v_iconst C 1 (by decide) dX4_isBalanced_25 ?_
    refine v_goto C 30 (by decide) dX4_isBalanced_26 ?_
    exact v_zret C rfl hRT (Nat.le_of_ble_eq_true rfl) (Nat.le_of_ble_eq_true rfl) dX4_isBalanced_30 ⟨_, rfl, bI1 c22, rfl⟩
