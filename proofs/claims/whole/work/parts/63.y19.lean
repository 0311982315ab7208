theorem pr_last {S : HS} {am : AM} {q : AS} {j : Nat} (hV : NV S am q) (hB : BI q) (hj : j < 4) (h : ¬ cn q (10 + j) = 0) {k : Nat} (hk : k < 2) : aI S (am 1) (4 * j + 2 * (cn q (10 + j) - 1) + k) = iO (zz q 1 j (k + 2)) := by
  have hc := hB.bc j hj
  rcases (show cn q (10 + j) = 1 ∨ cn q (10 + j) = 2 by omega) with e | e
  · have := hV.p1 j hj e k hk
    rw [e]
    exact this
  · have := hV.p2 j hj e (k + 2) (by omega)
    rw [e, show 4 * j + 2 * (2 - 1) + k = 4 * j + (k + 2) by omega]
    exact this
theorem at_L {j c : Nat} (h : ¬ c = 0) : 4 * nI j + 2 * (nI c - 1) = nI (4 * j + 2 * (c - 1)) := by
  rw [ix40, nI_iO c, show (1 : Int32) = iO 1 from rfl, iO_sub, show (2 : Int32) = iO 2 from rfl, iO_mul, nI_iO, nI_iO, iO_add]
  congr 1
  omega
theorem at_2 {j c : Nat} : nI (4 * j) + 2 * nI c = nI (4 * j + 2 * c) := by
  rw [nI_iO, nI_iO, nI_iO, show (2 : Int32) = iO 2 from rfl, iO_mul, iO_add]
  congr 1
theorem le0_z {c : Nat} (h : nI c ≤ 0) (hc : c < 2 ^ 31) : c = 0 := by
  have := nge (b := c) (a := 0) h hc
  omega
theorem add_0 {q : AS} {j : Nat} {t u : Int32} (h : cn q (10 + j) = 0) : addQ q j t u = clkA q j 1 (addW q j t.toInt u.toInt) := by unfold addQ; rw [if_pos h]
theorem add_1 {q : AS} {j : Nat} {t u : Int32} (h : ¬ cn q (10 + j) = 0) : addQ q j t u = clkA q j 2 (addW q j t.toInt u.toInt) := by unfold addQ; rw [if_neg h]
theorem addM {S T : HS} {am : AM} {q : AS} {j x0 c : Nat} {t u : Int32} (hA : NA S am (cn q 1)) (hV : NV S am q) (hj : j < 4) (hx : x0 = 0 ∨ x0 = 2)
    (fI : ∀ f a, f ≠ 61 → hI T f a = hI S f a) (fN : ∀ a, hN T a = hN S a) (fA : ∀ a, a ≠ am 1 → a ≠ am 2 → aI T a = aI S a) (f2 : ∀ i, i ≠ j → aI T (am 2) i = aI S (am 2) i) (f1 : ∀ i, i ≠ j → ∀ k, k < 4 → aI T (am 1) (4 * i + k) = aI S (am 1) (4 * i + k)) (e0 : c = 2 → ∀ k, k < 2 → aI T (am 1) (4 * j + k) = iO (zz q 1 j (k + 2)))
    (h : c = if x0 = 0 then 1 else 2) : NV (tI (tI (tI T (am 1) (4 * j + x0) t) (am 1) (4 * j + x0 + 1) u) (am 2) j (nI c)) am (clkA q j c (addW q j t.toInt u.toInt)) := by
  have n12 : am 1 ≠ am 2 := fun z => absurd (hA.jj 1 (by decide) 2 (by decide) z) (by decide)
  refine NV.clk hA hV hj (fun f a hf => fI f a hf) (fun a => fN a) (fun a h1 h2 => ?_) (fun i hi => ?_) ?_ (fun i hi k hk => ?_) (fun hc k hk => ?_) (fun hc k hk => ?_)
  · rw [aI_tI2 h2, aI_tI2 h1, aI_tI2 h1]; exact fA a h1 h2
  · rw [aI_tI1, if_neg hi, aI_tI2 n12.symm, aI_tI2 n12.symm]; exact f2 i hi
  · rw [aI_tI1, if_pos rfl]
  · rw [aI_tI2 n12, aI_tI1, if_neg (by omega), aI_tI1, if_neg (by omega)]; exact f1 i hi k hk
  · have hx0 : x0 = 0 := by rcases hx with e | e; exact e; rw [e, if_neg (by decide)] at h; omega
    subst hx0
    rw [aI_tI2 n12, aI_tI1]
    by_cases e : k = 1
    · subst e
      rw [if_pos rfl]; exact (iO_of u).symm
    · obtain rfl : k = 0 := by omega
      rw [if_neg (by omega), aI_tI1, if_pos rfl]; exact (iO_of t).symm
  · have hx0 : x0 = 2 := by rcases hx with e | e; rw [e, if_pos rfl] at h; omega; exact e
    subst hx0
    rw [aI_tI2 n12, aI_tI1]
    by_cases e3 : k = 3
    · subst e3
      rw [if_pos rfl]; exact (iO_of u).symm
    · by_cases e2 : k = 2
      · subst e2
        rw [if_neg (by omega), aI_tI1, if_pos rfl]; exact (iO_of t).symm
      · rw [if_neg (by omega), aI_tI1, if_neg (by omega), e0 hc k (by omega)]
        rcases (show k = 0 ∨ k = 1 by omega) with rfl | rfl <;> rfl
set_option maxRecDepth 100000 in
set_option maxHeartbeats 4000000 in
theorem c_X5_addPair (l : Launch) (S : HS) (am : AM) (q : AS) (hB : BI q) (hA : NA S am (cn q 1)) (hV : NV S am q) (i t u9 : Int32) : cM l yX5_addPair cX5_addPair 8 (Option.some Jvm.ClassFile.FieldType.int) 8 [.ref (am 0), .int i, .int t, .int u9] S (pI fun r u => (∃ j, j < 4 ∧ i = nI j ∧ okAdd q j t u9 ∧ NA u am (cn q 1) ∧ NV u am (addQ q j t u9) ∧ hI u 61 (am 0) = 0 ∧ nI (cn (addQ q j t u9) (10 + j)) = r) ∨ (¬ isSn i ∧ FrN S u am ∧ hI u 61 (am 0) = 1) ∨ (∃ j, j < 4 ∧ i = nI j ∧ ¬ okAdd q j t u9 ∧ FrN S u am ∧ hI u 61 (am 0) = 2)) 0 0 := by
  refine cM_intro (by decide +kernel) cd_X5_addPair (Nat.le_of_ble_eq_true rfl) ?_
  intro pP eE sS mM aA bB tT cC G A C hRT hin
  refine V.lvs (lv2 := [(0, .ref (am 0)), (1, .int i), (2, .int t), (3, .int u9)]) rfl ?_
  refine v_iload_n C 2 rfl rfl dX5_addPair_0 ?_
  refine v_callSi C (st := []) [.int t] (c_X5_isTime l S t) ml_RX5_80 ms_yX5_isTime rfl (Nat.le_of_ble_eq_true rfl) (Nat.le_of_ble_eq_true rfl) (Nat.le_of_ble_eq_true rfl) (Nat.le_of_ble_eq_true rfl) (Nat.le_of_ble_eq_true rfl) dX5_addPair_1 (fun r u h => ?_) _ rfl
  obtain ⟨rfl, rfl⟩ := h
  refine v_if_eq C 18 (by decide) dX5_addPair_4 (fun c4 => ?_) (fun c4 => ?_)
  · refine v_iconst C 0 (by decide) dX5_addPair_18 ?_
    refine v_istore C [(4, .int 0), (0, .ref (am 0)), (1, .int i), (2, .int t), (3, .int u9)] (by decide) rfl dX5_addPair_19 ?_
    refine v_iload_n C 2 rfl rfl dX5_addPair_21 ?_
    refine v_callSi C (st := []) [.int i] (c_X5_isSensor l S i) ml_RX5_84 ms_yX5_isSensor rfl (Nat.le_of_ble_eq_true rfl) (Nat.le_of_ble_eq_true rfl) (Nat.le_of_ble_eq_true rfl) (Nat.le_of_ble_eq_true rfl) (Nat.le_of_ble_eq_true rfl) dX5_addPair_22 (fun r u h => ?_) _ rfl
    obtain ⟨rfl, rfl⟩ := h
    refine v_if_eq C 112 (by decide) dX5_addPair_25 (fun c25 => ?_) (fun c25 => ?_)
    · refine v_aload_n C 1 rfl rfl dX5_addPair_112 ?_
      refine v_iload_n C 2 rfl rfl dX5_addPair_113 ?_
      refine v_callSi C (st := [.ref (am 0)]) [.int i] (c_X5_isSensor l S i) ml_RX5_84 ms_yX5_isSensor rfl (Nat.le_of_ble_eq_true rfl) (Nat.le_of_ble_eq_true rfl) (Nat.le_of_ble_eq_true rfl) (Nat.le_of_ble_eq_true rfl) (Nat.le_of_ble_eq_true rfl) dX5_addPair_114 (fun r u h => ?_) _ rfl
      obtain ⟨rfl, rfl⟩ := h
      refine v_if_ne C 124 (by decide) dX5_addPair_117 (fun q => (q c25).elim) (fun c117 => ?_)
      refine v_iconst C 1 (by decide) dX5_addPair_120 ?_
      refine v_goto C 134 (by decide) dX5_addPair_121 ?_
      refine v_putI C fl_RX5_62 hA.k0 rfl rfl dX5_addPair_134 ?_
      refine v_aload_n C 1 rfl rfl dX5_addPair_137 ?_
      refine v_getI C 1 fl_RX5_62 hA.k0 hI_sI1 dX5_addPair_138 ?_
      refine v_if_le C 146 (by decide) dX5_addPair_141 (fun q => absurd q (by decide)) (fun _ => ?_)
      refine v_iconst C (-1) (by decide) dX5_addPair_144 ?_
      exact v_iret C hRT (Nat.le_of_ble_eq_true rfl) (Nat.le_of_ble_eq_true rfl) dX5_addPair_145 ⟨_, rfl, Or.inr (Or.inl ⟨(bI_e0 c25 : ¬ (¬ i < 0 ∧ i < 4)), FrN.I, hI_sI1⟩)⟩
    · obtain ⟨j, hj, rfl⟩ := ixI (n := 4) (bI_n0 c25 : ¬ i < 0 ∧ i < 4).1 (bI_n0 c25 : ¬ i < 0 ∧ i < 4).2 (by decide)
      have hc2 := hB.bc j hj
      refine v_aload_n C 1 rfl rfl dX5_addPair_28 ?_
      refine v_getR C (am 2) fl_RX5_13 hA.k0 hA.r42 dX5_addPair_29 ?_
      refine v_iload_n C 2 rfl rfl dX5_addPair_32 ?_
      refine v_iald C (nI (cn q (10 + j))) hA.k2 (vpi hA.n2 (vp_in_nI (by omega) (by decide))) ((congrArg _ (nI_clamp (by omega))).trans (hV.pm j hj)) dX5_addPair_33 ?_
      refine v_if_le C 112 (by decide) dX5_addPair_34 (fun c34 => ?_) (fun c34 => ?_)
      · refine v_aload_n C 1 rfl rfl dX5_addPair_112 ?_
        refine v_iload_n C 2 rfl rfl dX5_addPair_113 ?_
        refine v_callSi C (st := [.ref (am 0)]) [.int (nI j)] (c_X5_isSensor l S (nI j)) ml_RX5_84 ms_yX5_isSensor rfl (Nat.le_of_ble_eq_true rfl) (Nat.le_of_ble_eq_true rfl) (Nat.le_of_ble_eq_true rfl) (Nat.le_of_ble_eq_true rfl) (Nat.le_of_ble_eq_true rfl) dX5_addPair_114 (fun r u h => ?_) _ rfl
        obtain ⟨rfl, rfl⟩ := h
        refine v_if_ne C 124 (by decide) dX5_addPair_117 (fun c117 => ?_) (fun q => (c25 q).elim)
        refine v_iload C 0 rfl dX5_addPair_124 ?_
        refine v_if_ne C 133 (by decide) dX5_addPair_126 (fun q => absurd (by decide) q) (fun _ => ?_)
        refine v_iconst C 2 (by decide) dX5_addPair_129 ?_
        refine v_goto C 134 (by decide) dX5_addPair_130 ?_
        refine v_putI C fl_RX5_62 hA.k0 rfl rfl dX5_addPair_134 ?_
        refine v_aload_n C 1 rfl rfl dX5_addPair_137 ?_
        refine v_getI C 2 fl_RX5_62 hA.k0 hI_sI1 dX5_addPair_138 ?_
        refine v_if_le C 146 (by decide) dX5_addPair_141 (fun q => absurd q (by decide)) (fun _ => ?_)
        refine v_iconst C (-1) (by decide) dX5_addPair_144 ?_
        exact v_iret C hRT (Nat.le_of_ble_eq_true rfl) (Nat.le_of_ble_eq_true rfl) dX5_addPair_145 ⟨_, rfl, Or.inr (Or.inr ⟨j, hj, rfl, fun z => (bI_e0 c4 : ¬ (¬ t < 0 ∧ ¬ 9999 < t)) z.1, FrN.I, hI_sI1⟩)⟩
      · have hc1 : ¬ cn q (10 + j) = 0 := fun z => c34 (by rw [z]; decide)
        refine v_iconst C 4 (by decide) dX5_addPair_37 ?_
        refine v_iload_n C 2 rfl rfl dX5_addPair_38 ?_
        refine v_imul C dX5_addPair_39 ?_
        refine v_iconst C 2 (by decide) dX5_addPair_40 ?_
        refine v_aload_n C 1 rfl rfl dX5_addPair_41 ?_
        refine v_getR C (am 2) fl_RX5_13 hA.k0 hA.r42 dX5_addPair_42 ?_
        refine v_iload_n C 2 rfl rfl dX5_addPair_45 ?_
        refine v_iald C (nI (cn q (10 + j))) hA.k2 (vpi hA.n2 (vp_in_nI (by omega) (by decide))) ((congrArg _ (nI_clamp (by omega))).trans (hV.pm j hj)) dX5_addPair_46 ?_
        refine v_iconst C 1 (by decide) dX5_addPair_47 ?_
        refine v_isub C dX5_addPair_48 ?_
        refine v_imul C dX5_addPair_49 ?_
        refine v_iadd C dX5_addPair_50 ?_
        rw [at_L hc1]
        refine v_istore C [(5, .int (nI (4 * j + 2 * ((cn q (10 + j)) - 1)))), (4, .int 0), (0, .ref (am 0)), (1, .int (nI j)), (2, .int t), (3, .int u9)] (by decide) rfl dX5_addPair_51 ?_
        refine v_iload_n C 4 rfl rfl dX5_addPair_53 ?_
        refine v_aload_n C 2 rfl rfl dX5_addPair_54 ?_
        refine v_getR C (am 1) fl_RX5_9 hA.k0 hA.r41 dX5_addPair_55 ?_
        refine v_iload C 0 rfl dX5_addPair_58 ?_
        refine v_iald C (iO (zz q 1 j 2)) hA.k1 (vpi hA.n1 (vp_in_nI (by omega) (by decide))) ((congrArg _ (nI_clamp (by omega))).trans (pr_last (k := 0) hV hB hj hc1 (by decide))) dX5_addPair_60 ?_
        refine v_isub C dX5_addPair_61 ?_
        refine v_istore C [(6, .int (t - (iO (zz q 1 j 2)))), (5, .int (nI (4 * j + 2 * ((cn q (10 + j)) - 1)))), (4, .int 0), (0, .ref (am 0)), (1, .int (nI j)), (2, .int t), (3, .int u9)] (by decide) rfl dX5_addPair_62 ?_
        refine v_iload_n C 6 rfl rfl dX5_addPair_64 ?_
        refine v_aload_n C 3 rfl rfl dX5_addPair_65 ?_
        refine v_getR C (am 1) fl_RX5_9 hA.k0 hA.r41 dX5_addPair_66 ?_
        refine v_iload C 1 rfl dX5_addPair_69 ?_
        refine v_iconst C 1 (by decide) dX5_addPair_71 ?_
        refine v_iadd C dX5_addPair_72 ?_
        rw [show nI (4 * j + 2 * ((cn q (10 + j)) - 1)) + (1 : Int32) = nI (4 * j + 2 * ((cn q (10 + j)) - 1) + 1) from nI_s _ 1]
        refine v_iald C (iO (zz q 1 j 3)) hA.k1 (vpi hA.n1 (vp_in_nI (by omega) (by decide))) ((congrArg _ (nI_clamp (by omega))).trans (pr_last (k := 1) hV hB hj hc1 (by decide))) dX5_addPair_73 ?_
        refine v_isub C dX5_addPair_74 ?_
        refine v_istore C [(7, .int (u9 - (iO (zz q 1 j 3)))), (6, .int (t - (iO (zz q 1 j 2)))), (5, .int (nI (4 * j + 2 * ((cn q (10 + j)) - 1)))), (4, .int 0), (0, .ref (am 0)), (1, .int (nI j)), (2, .int t), (3, .int u9)] (by decide) rfl dX5_addPair_75 ?_
        refine v_iload C 3 rfl dX5_addPair_77 ?_
        refine v_if_eq C 109 (by decide) dX5_addPair_79 (fun _ => ?_) (fun q => absurd (by decide) q)
        refine v_iconst C 0 (by decide) dX5_addPair_109 ?_
        refine v_istore C [(4, .int 0), (7, .int (u9 - (iO (zz q 1 j 3)))), (6, .int (t - (iO (zz q 1 j 2)))), (5, .int (nI (4 * j + 2 * ((cn q (10 + j)) - 1)))), (0, .ref (am 0)), (1, .int (nI j)), (2, .int t), (3, .int u9)] (by decide) rfl dX5_addPair_110 ?_
        refine v_aload_n C 4 rfl rfl dX5_addPair_112 ?_
        refine v_iload_n C 5 rfl rfl dX5_addPair_113 ?_
        refine v_callSi C (st := [.ref (am 0)]) [.int (nI j)] (c_X5_isSensor l S (nI j)) ml_RX5_84 ms_yX5_isSensor rfl (Nat.le_of_ble_eq_true rfl) (Nat.le_of_ble_eq_true rfl) (Nat.le_of_ble_eq_true rfl) (Nat.le_of_ble_eq_true rfl) (Nat.le_of_ble_eq_true rfl) dX5_addPair_114 (fun r u h => ?_) _ rfl
        obtain ⟨rfl, rfl⟩ := h
        refine v_if_ne C 124 (by decide) dX5_addPair_117 (fun c117 => ?_) (fun q => (c25 q).elim)
        refine v_iload C 0 rfl dX5_addPair_124 ?_
        refine v_if_ne C 133 (by decide) dX5_addPair_126 (fun q => absurd (by decide) q) (fun _ => ?_)
        refine v_iconst C 2 (by decide) dX5_addPair_129 ?_
        refine v_goto C 134 (by decide) dX5_addPair_130 ?_
        refine v_putI C fl_RX5_62 hA.k0 rfl rfl dX5_addPair_134 ?_
        refine v_aload_n C 4 rfl rfl dX5_addPair_137 ?_
        refine v_getI C 2 fl_RX5_62 hA.k0 hI_sI1 dX5_addPair_138 ?_
        refine v_if_le C 146 (by decide) dX5_addPair_141 (fun q => absurd q (by decide)) (fun _ => ?_)
        refine v_iconst C (-1) (by decide) dX5_addPair_144 ?_
        exact v_iret C hRT (Nat.le_of_ble_eq_true rfl) (Nat.le_of_ble_eq_true rfl) dX5_addPair_145 ⟨_, rfl, Or.inr (Or.inr ⟨j, hj, rfl, fun z => (bI_e0 c4 : ¬ (¬ t < 0 ∧ ¬ 9999 < t)) z.1, FrN.I, hI_sI1⟩)⟩
  · refine v_iload_n C 3 rfl rfl dX5_addPair_7 ?_
    refine v_callSi C (st := []) [.int u9] (c_X5_isTime l S u9) ml_RX5_80 ms_yX5_isTime rfl (Nat.le_of_ble_eq_true rfl) (Nat.le_of_ble_eq_true rfl) (Nat.le_of_ble_eq_true rfl) (Nat.le_of_ble_eq_true rfl) (Nat.le_of_ble_eq_true rfl) dX5_addPair_8 (fun r u h => ?_) _ rfl
    obtain ⟨rfl, rfl⟩ := h
    refine v_if_eq C 18 (by decide) dX5_addPair_11 (fun c11 => ?_) (fun c11 => ?_)
    · refine v_iconst C 0 (by decide) dX5_addPair_18 ?_
      refine v_istore C [(4, .int 0), (0, .ref (am 0)), (1, .int i), (2, .int t), (3, .int u9)] (by decide) rfl dX5_addPair_19 ?_
      refine v_iload_n C 2 rfl rfl dX5_addPair_21 ?_
      refine v_callSi C (st := []) [.int i] (c_X5_isSensor l S i) ml_RX5_84 ms_yX5_isSensor rfl (Nat.le_of_ble_eq_true rfl) (Nat.le_of_ble_eq_true rfl) (Nat.le_of_ble_eq_true rfl) (Nat.le_of_ble_eq_true rfl) (Nat.le_of_ble_eq_true rfl) dX5_addPair_22 (fun r u h => ?_) _ rfl
      obtain ⟨rfl, rfl⟩ := h
      refine v_if_eq C 112 (by decide) dX5_addPair_25 (fun c25 => ?_) (fun c25 => ?_)
      · refine v_aload_n C 1 rfl rfl dX5_addPair_112 ?_
        refine v_iload_n C 2 rfl rfl dX5_addPair_113 ?_
        refine v_callSi C (st := [.ref (am 0)]) [.int i] (c_X5_isSensor l S i) ml_RX5_84 ms_yX5_isSensor rfl (Nat.le_of_ble_eq_true rfl) (Nat.le_of_ble_eq_true rfl) (Nat.le_of_ble_eq_true rfl) (Nat.le_of_ble_eq_true rfl) (Nat.le_of_ble_eq_true rfl) dX5_addPair_114 (fun r u h => ?_) _ rfl
        obtain ⟨rfl, rfl⟩ := h
        refine v_if_ne C 124 (by decide) dX5_addPair_117 (fun q => (q c25).elim) (fun c117 => ?_)
        refine v_iconst C 1 (by decide) dX5_addPair_120 ?_
        refine v_goto C 134 (by decide) dX5_addPair_121 ?_
        refine v_putI C fl_RX5_62 hA.k0 rfl rfl dX5_addPair_134 ?_
        refine v_aload_n C 1 rfl rfl dX5_addPair_137 ?_
        refine v_getI C 1 fl_RX5_62 hA.k0 hI_sI1 dX5_addPair_138 ?_
        refine v_if_le C 146 (by decide) dX5_addPair_141 (fun q => absurd q (by decide)) (fun _ => ?_)
        refine v_iconst C (-1) (by decide) dX5_addPair_144 ?_
        exact v_iret C hRT (Nat.le_of_ble_eq_true rfl) (Nat.le_of_ble_eq_true rfl) dX5_addPair_145 ⟨_, rfl, Or.inr (Or.inl ⟨(bI_e0 c25 : ¬ (¬ i < 0 ∧ i < 4)), FrN.I, hI_sI1⟩)⟩
      · obtain ⟨j, hj, rfl⟩ := ixI (n := 4) (bI_n0 c25 : ¬ i < 0 ∧ i < 4).1 (bI_n0 c25 : ¬ i < 0 ∧ i < 4).2 (by decide)
        have hc2 := hB.bc j hj
        refine v_aload_n C 1 rfl rfl dX5_addPair_28 ?_
        refine v_getR C (am 2) fl_RX5_13 hA.k0 hA.r42 dX5_addPair_29 ?_
        refine v_iload_n C 2 rfl rfl dX5_addPair_32 ?_
        refine v_iald C (nI (cn q (10 + j))) hA.k2 (vpi hA.n2 (vp_in_nI (by omega) (by decide))) ((congrArg _ (nI_clamp (by omega))).trans (hV.pm j hj)) dX5_addPair_33 ?_
        refine v_if_le C 112 (by decide) dX5_addPair_34 (fun c34 => ?_) (fun c34 => ?_)
        · refine v_aload_n C 1 rfl rfl dX5_addPair_112 ?_
          refine v_iload_n C 2 rfl rfl dX5_addPair_113 ?_
          refine v_callSi C (st := [.ref (am 0)]) [.int (nI j)] (c_X5_isSensor l S (nI j)) ml_RX5_84 ms_yX5_isSensor rfl (Nat.le_of_ble_eq_true rfl) (Nat.le_of_ble_eq_true rfl) (Nat.le_of_ble_eq_true rfl) (Nat.le_of_ble_eq_true rfl) (Nat.le_of_ble_eq_true rfl) dX5_addPair_114 (fun r u h => ?_) _ rfl
          obtain ⟨rfl, rfl⟩ := h
          refine v_if_ne C 124 (by decide) dX5_addPair_117 (fun c117 => ?_) (fun q => (c25 q).elim)
          refine v_iload C 0 rfl dX5_addPair_124 ?_
          refine v_if_ne C 133 (by decide) dX5_addPair_126 (fun q => absurd (by decide) q) (fun _ => ?_)
          refine v_iconst C 2 (by decide) dX5_addPair_129 ?_
          refine v_goto C 134 (by decide) dX5_addPair_130 ?_
          refine v_putI C fl_RX5_62 hA.k0 rfl rfl dX5_addPair_134 ?_
          refine v_aload_n C 1 rfl rfl dX5_addPair_137 ?_
          refine v_getI C 2 fl_RX5_62 hA.k0 hI_sI1 dX5_addPair_138 ?_
          refine v_if_le C 146 (by decide) dX5_addPair_141 (fun q => absurd q (by decide)) (fun _ => ?_)
          refine v_iconst C (-1) (by decide) dX5_addPair_144 ?_
          exact v_iret C hRT (Nat.le_of_ble_eq_true rfl) (Nat.le_of_ble_eq_true rfl) dX5_addPair_145 ⟨_, rfl, Or.inr (Or.inr ⟨j, hj, rfl, fun z => (bI_e0 c11 : ¬ (¬ u9 < 0 ∧ ¬ 9999 < u9)) z.2.1, FrN.I, hI_sI1⟩)⟩
        · have hc1 : ¬ cn q (10 + j) = 0 := fun z => c34 (by rw [z]; decide)
          refine v_iconst C 4 (by decide) dX5_addPair_37 ?_
          refine v_iload_n C 2 rfl rfl dX5_addPair_38 ?_
          refine v_imul C dX5_addPair_39 ?_
          refine v_iconst C 2 (by decide) dX5_addPair_40 ?_
          refine v_aload_n C 1 rfl rfl dX5_addPair_41 ?_
          refine v_getR C (am 2) fl_RX5_13 hA.k0 hA.r42 dX5_addPair_42 ?_
          refine v_iload_n C 2 rfl rfl dX5_addPair_45 ?_
          refine v_iald C (nI (cn q (10 + j))) hA.k2 (vpi hA.n2 (vp_in_nI (by omega) (by decide))) ((congrArg _ (nI_clamp (by omega))).trans (hV.pm j hj)) dX5_addPair_46 ?_
          refine v_iconst C 1 (by decide) dX5_addPair_47 ?_
          refine v_isub C dX5_addPair_48 ?_
          refine v_imul C dX5_addPair_49 ?_
          refine v_iadd C dX5_addPair_50 ?_
          rw [at_L hc1]
          refine v_istore C [(5, .int (nI (4 * j + 2 * ((cn q (10 + j)) - 1)))), (4, .int 0), (0, .ref (am 0)), (1, .int (nI j)), (2, .int t), (3, .int u9)] (by decide) rfl dX5_addPair_51 ?_
          refine v_iload_n C 4 rfl rfl dX5_addPair_53 ?_
          refine v_aload_n C 2 rfl rfl dX5_addPair_54 ?_
          refine v_getR C (am 1) fl_RX5_9 hA.k0 hA.r41 dX5_addPair_55 ?_
          refine v_iload C 0 rfl dX5_addPair_58 ?_
          refine v_iald C (iO (zz q 1 j 2)) hA.k1 (vpi hA.n1 (vp_in_nI (by omega) (by decide))) ((congrArg _ (nI_clamp (by omega))).trans (pr_last (k := 0) hV hB hj hc1 (by decide))) dX5_addPair_60 ?_
          refine v_isub C dX5_addPair_61 ?_
          refine v_istore C [(6, .int (t - (iO (zz q 1 j 2)))), (5, .int (nI (4 * j + 2 * ((cn q (10 + j)) - 1)))), (4, .int 0), (0, .ref (am 0)), (1, .int (nI j)), (2, .int t), (3, .int u9)] (by decide) rfl dX5_addPair_62 ?_
          refine v_iload_n C 6 rfl rfl dX5_addPair_64 ?_
          refine v_aload_n C 3 rfl rfl dX5_addPair_65 ?_
          refine v_getR C (am 1) fl_RX5_9 hA.k0 hA.r41 dX5_addPair_66 ?_
          refine v_iload C 1 rfl dX5_addPair_69 ?_
          refine v_iconst C 1 (by decide) dX5_addPair_71 ?_
          refine v_iadd C dX5_addPair_72 ?_
          rw [show nI (4 * j + 2 * ((cn q (10 + j)) - 1)) + (1 : Int32) = nI (4 * j + 2 * ((cn q (10 + j)) - 1) + 1) from nI_s _ 1]
          refine v_iald C (iO (zz q 1 j 3)) hA.k1 (vpi hA.n1 (vp_in_nI (by omega) (by decide))) ((congrArg _ (nI_clamp (by omega))).trans (pr_last (k := 1) hV hB hj hc1 (by decide))) dX5_addPair_73 ?_
          refine v_isub C dX5_addPair_74 ?_
          refine v_istore C [(7, .int (u9 - (iO (zz q 1 j 3)))), (6, .int (t - (iO (zz q 1 j 2)))), (5, .int (nI (4 * j + 2 * ((cn q (10 + j)) - 1)))), (4, .int 0), (0, .ref (am 0)), (1, .int (nI j)), (2, .int t), (3, .int u9)] (by decide) rfl dX5_addPair_75 ?_
          refine v_iload C 3 rfl dX5_addPair_77 ?_
          refine v_if_eq C 109 (by decide) dX5_addPair_79 (fun _ => ?_) (fun q => absurd (by decide) q)
          refine v_iconst C 0 (by decide) dX5_addPair_109 ?_
          refine v_istore C [(4, .int 0), (7, .int (u9 - (iO (zz q 1 j 3)))), (6, .int (t - (iO (zz q 1 j 2)))), (5, .int (nI (4 * j + 2 * ((cn q (10 + j)) - 1)))), (0, .ref (am 0)), (1, .int (nI j)), (2, .int t), (3, .int u9)] (by decide) rfl dX5_addPair_110 ?_
          refine v_aload_n C 4 rfl rfl dX5_addPair_112 ?_
          refine v_iload_n C 5 rfl rfl dX5_addPair_113 ?_
          refine v_callSi C (st := [.ref (am 0)]) [.int (nI j)] (c_X5_isSensor l S (nI j)) ml_RX5_84 ms_yX5_isSensor rfl (Nat.le_of_ble_eq_true rfl) (Nat.le_of_ble_eq_true rfl) (Nat.le_of_ble_eq_true rfl) (Nat.le_of_ble_eq_true rfl) (Nat.le_of_ble_eq_true rfl) dX5_addPair_114 (fun r u h => ?_) _ rfl
          obtain ⟨rfl, rfl⟩ := h
          refine v_if_ne C 124 (by decide) dX5_addPair_117 (fun c117 => ?_) (fun q => (c25 q).elim)
          refine v_iload C 0 rfl dX5_addPair_124 ?_
          refine v_if_ne C 133 (by decide) dX5_addPair_126 (fun q => absurd (by decide) q) (fun _ => ?_)
          refine v_iconst C 2 (by decide) dX5_addPair_129 ?_
          refine v_goto C 134 (by decide) dX5_addPair_130 ?_
          refine v_putI C fl_RX5_62 hA.k0 rfl rfl dX5_addPair_134 ?_
          refine v_aload_n C 4 rfl rfl dX5_addPair_137 ?_
          refine v_getI C 2 fl_RX5_62 hA.k0 hI_sI1 dX5_addPair_138 ?_
          refine v_if_le C 146 (by decide) dX5_addPair_141 (fun q => absurd q (by decide)) (fun _ => ?_)
          refine v_iconst C (-1) (by decide) dX5_addPair_144 ?_
          exact v_iret C hRT (Nat.le_of_ble_eq_true rfl) (Nat.le_of_ble_eq_true rfl) dX5_addPair_145 ⟨_, rfl, Or.inr (Or.inr ⟨j, hj, rfl, fun z => (bI_e0 c11 : ¬ (¬ u9 < 0 ∧ ¬ 9999 < u9)) z.2.1, FrN.I, hI_sI1⟩)⟩
    · refine v_iconst C 1 (by decide) dX5_addPair_14 ?_
      refine v_goto C 19 (by decide) dX5_addPair_15 ?_
      refine v_istore C [(4, .int 1), (0, .ref (am 0)), (1, .int i), (2, .int t), (3, .int u9)] (by decide) rfl dX5_addPair_19 ?_
      refine v_iload_n C 2 rfl rfl dX5_addPair_21 ?_
      refine v_callSi C (st := []) [.int i] (c_X5_isSensor l S i) ml_RX5_84 ms_yX5_isSensor rfl (Nat.le_of_ble_eq_true rfl) (Nat.le_of_ble_eq_true rfl) (Nat.le_of_ble_eq_true rfl) (Nat.le_of_ble_eq_true rfl) (Nat.le_of_ble_eq_true rfl) dX5_addPair_22 (fun r u h => ?_) _ rfl
      obtain ⟨rfl, rfl⟩ := h
      refine v_if_eq C 112 (by decide) dX5_addPair_25 (fun c25 => ?_) (fun c25 => ?_)
      · refine v_aload_n C 1 rfl rfl dX5_addPair_112 ?_
        refine v_iload_n C 2 rfl rfl dX5_addPair_113 ?_
        refine v_callSi C (st := [.ref (am 0)]) [.int i] (c_X5_isSensor l S i) ml_RX5_84 ms_yX5_isSensor rfl (Nat.le_of_ble_eq_true rfl) (Nat.le_of_ble_eq_true rfl) (Nat.le_of_ble_eq_true rfl) (Nat.le_of_ble_eq_true rfl) (Nat.le_of_ble_eq_true rfl) dX5_addPair_114 (fun r u h => ?_) _ rfl
        obtain ⟨rfl, rfl⟩ := h
        refine v_if_ne C 124 (by decide) dX5_addPair_117 (fun q => (q c25).elim) (fun c117 => ?_)
        refine v_iconst C 1 (by decide) dX5_addPair_120 ?_
        refine v_goto C 134 (by decide) dX5_addPair_121 ?_
        refine v_putI C fl_RX5_62 hA.k0 rfl rfl dX5_addPair_134 ?_
        refine v_aload_n C 1 rfl rfl dX5_addPair_137 ?_
        refine v_getI C 1 fl_RX5_62 hA.k0 hI_sI1 dX5_addPair_138 ?_
        refine v_if_le C 146 (by decide) dX5_addPair_141 (fun q => absurd q (by decide)) (fun _ => ?_)
        refine v_iconst C (-1) (by decide) dX5_addPair_144 ?_
        exact v_iret C hRT (Nat.le_of_ble_eq_true rfl) (Nat.le_of_ble_eq_true rfl) dX5_addPair_145 ⟨_, rfl, Or.inr (Or.inl ⟨(bI_e0 c25 : ¬ (¬ i < 0 ∧ i < 4)), FrN.I, hI_sI1⟩)⟩
      · obtain ⟨j, hj, rfl⟩ := ixI (n := 4) (bI_n0 c25 : ¬ i < 0 ∧ i < 4).1 (bI_n0 c25 : ¬ i < 0 ∧ i < 4).2 (by decide)
        have hc2 := hB.bc j hj
        refine v_aload_n C 1 rfl rfl dX5_addPair_28 ?_
        refine v_getR C (am 2) fl_RX5_13 hA.k0 hA.r42 dX5_addPair_29 ?_
        refine v_iload_n C 2 rfl rfl dX5_addPair_32 ?_
        refine v_iald C (nI (cn q (10 + j))) hA.k2 (vpi hA.n2 (vp_in_nI (by omega) (by decide))) ((congrArg _ (nI_clamp (by omega))).trans (hV.pm j hj)) dX5_addPair_33 ?_
        refine v_if_le C 112 (by decide) dX5_addPair_34 (fun c34 => ?_) (fun c34 => ?_)
        · refine v_aload_n C 1 rfl rfl dX5_addPair_112 ?_
          refine v_iload_n C 2 rfl rfl dX5_addPair_113 ?_
          refine v_callSi C (st := [.ref (am 0)]) [.int (nI j)] (c_X5_isSensor l S (nI j)) ml_RX5_84 ms_yX5_isSensor rfl (Nat.le_of_ble_eq_true rfl) (Nat.le_of_ble_eq_true rfl) (Nat.le_of_ble_eq_true rfl) (Nat.le_of_ble_eq_true rfl) (Nat.le_of_ble_eq_true rfl) dX5_addPair_114 (fun r u h => ?_) _ rfl
          obtain ⟨rfl, rfl⟩ := h
          refine v_if_ne C 124 (by decide) dX5_addPair_117 (fun c117 => ?_) (fun q => (c25 q).elim)
          refine v_iload C 0 rfl dX5_addPair_124 ?_
          refine v_if_ne C 133 (by decide) dX5_addPair_126 (fun _ => ?_) (fun q => absurd q (by decide))
          refine v_iconst C 0 (by decide) dX5_addPair_133 ?_
          refine v_putI C fl_RX5_62 hA.k0 rfl rfl dX5_addPair_134 ?_
          refine v_aload_n C 1 rfl rfl dX5_addPair_137 ?_
          refine v_getI C 0 fl_RX5_62 hA.k0 hI_sI1 dX5_addPair_138 ?_
          refine v_if_le C 146 (by decide) dX5_addPair_141 (fun _ => ?_) (fun q => absurd (by decide) q)
          have n12 : am 1 ≠ am 2 := fun z => absurd (hA.jj 1 (by decide) 2 (by decide) z) (by decide)
          have hc0 : cn q (10 + j) = 0 := le0_z c34 (by omega)
          have hok : okAdd q j t u9 := ⟨(bI_n0 c4 : (¬ t < 0 ∧ ¬ 9999 < t)), (bI_n0 c11 : (¬ u9 < 0 ∧ ¬ 9999 < u9)), Or.inl (by rw [hc0]; rfl)⟩
          refine v_iconst C 4 (by decide) dX5_addPair_146 ?_
          refine v_iload_n C 2 rfl rfl dX5_addPair_147 ?_
          refine v_imul C dX5_addPair_148 ?_
          rw [ix40]
          refine v_istore C [(5, .int (nI (4 * j))), (4, .int 1), (0, .ref (am 0)), (1, .int (nI j)), (2, .int t), (3, .int u9)] (by decide) rfl dX5_addPair_149 ?_
          refine v_aload_n C 2 rfl rfl dX5_addPair_151 ?_
          refine v_getR C (am 2) fl_RX5_13 hA.k0 hA.r42 dX5_addPair_152 ?_
          refine v_iload_n C 3 rfl rfl dX5_addPair_155 ?_
          refine v_iald C (nI 0) hA.k2 (vpi hA.n2 (vp_in_nI (by omega) (by decide))) ((congrArg _ (nI_clamp (by omega))).trans ((hV.pm j hj).trans (congrArg nI hc0))) dX5_addPair_156 ?_
          refine v_iconst C 2 (by decide) dX5_addPair_157 ?_
          refine v_icmp_ne C 202 (by decide) dX5_addPair_158 (fun c158 => ?_) (fun q => ((absurd (nI_inj (b := 2) q (by omega) (by decide)) (by omega) : False)).elim)
          have hcc : cn q (10 + j) = 0 := hc0
          refine v_aload_n C 2 rfl rfl dX5_addPair_202 ?_
          refine v_getR C (am 1) fl_RX5_9 hA.k0 hA.r41 dX5_addPair_203 ?_
          refine v_iload C 0 rfl dX5_addPair_206 ?_
          refine v_iconst C 2 (by decide) dX5_addPair_208 ?_
          refine v_aload_n C 2 rfl rfl dX5_addPair_209 ?_
          refine v_getR C (am 2) fl_RX5_13 hA.k0 hA.r42 dX5_addPair_210 ?_
          refine v_iload_n C 3 rfl rfl dX5_addPair_213 ?_
          refine v_iald C (nI (0)) hA.k2 (vpi hA.n2 (vp_in_nI (by omega) (by decide))) (by rw [nI_clamp (by omega)]; exact (hV.pm j hj).trans (congrArg nI hcc)) dX5_addPair_214 ?_
          refine v_imul C dX5_addPair_215 ?_
          refine v_iadd C dX5_addPair_216 ?_
          rw [show ((nI (4 * j)) + (2 * (nI (0)))) = nI (4 * j + 0) from at_2 (j := j) (c := 0)]
          refine v_iload_n C 4 rfl rfl dX5_addPair_217 ?_
          refine v_iastj C (4 * j + 0) (nI_clamp (by omega)) hA.k1 (vpi hA.n1 (vp_in_nI (by omega) (by decide))) dX5_addPair_218 ?_
          refine v_aload_n C 2 rfl rfl dX5_addPair_219 ?_
          refine v_getR C (am 1) fl_RX5_9 hA.k0 hA.r41 dX5_addPair_220 ?_
          refine v_iload C 0 rfl dX5_addPair_223 ?_
          refine v_iconst C 2 (by decide) dX5_addPair_225 ?_
          refine v_aload_n C 2 rfl rfl dX5_addPair_226 ?_
          refine v_getR C (am 2) fl_RX5_13 hA.k0 hA.r42 dX5_addPair_227 ?_
          refine v_iload_n C 3 rfl rfl dX5_addPair_230 ?_
          refine v_iald C (nI (0)) hA.k2 (vpi hA.n2 (vp_in_nI (by omega) (by decide))) (by rw [nI_clamp (by omega)]; rw [aI_tI2 n12.symm]; exact (hV.pm j hj).trans (congrArg nI hcc)) dX5_addPair_231 ?_
          refine v_imul C dX5_addPair_232 ?_
          refine v_iadd C dX5_addPair_233 ?_
          refine v_iconst C 1 (by decide) dX5_addPair_234 ?_
          refine v_iadd C dX5_addPair_235 ?_
          rw [show (((nI (4 * j)) + (2 * (nI (0)))) + 1) = nI (4 * j + 0 + 1) from (congrArg (· + (1 : Int32)) (at_2 (j := j) (c := 0))).trans (nI_s _ 1)]
          refine v_iload_n C 5 rfl rfl dX5_addPair_236 ?_
          refine v_iastj C (4 * j + 0 + 1) (nI_clamp (by omega)) hA.k1 (vpi hA.n1 (vp_in_nI (by omega) (by decide))) dX5_addPair_237 ?_
          refine v_aload_n C 2 rfl rfl dX5_addPair_238 ?_
          refine v_getR C (am 2) fl_RX5_13 hA.k0 hA.r42 dX5_addPair_239 ?_
          refine v_iload_n C 3 rfl rfl dX5_addPair_242 ?_
          refine v_dup2 C rfl rfl dX5_addPair_243 ?_
          refine v_iald C (nI (0)) hA.k2 (vpi hA.n2 (vp_in_nI (by omega) (by decide))) (by rw [nI_clamp (by omega)]; rw [aI_tI2 n12.symm]; rw [aI_tI2 n12.symm]; exact (hV.pm j hj).trans (congrArg nI hcc)) dX5_addPair_244 ?_
          refine v_iconst C 1 (by decide) dX5_addPair_245 ?_
          refine v_iadd C dX5_addPair_246 ?_
          rw [show ((nI (0)) + 1) = nI 1 from rfl]
          refine v_iastj C j (nI_clamp (by omega)) hA.k2 (vpi hA.n2 (vp_in_nI (by omega) (by decide))) dX5_addPair_247 ?_
          refine v_aload_n C 2 rfl rfl dX5_addPair_248 ?_
          refine v_getR C (am 2) fl_RX5_13 hA.k0 hA.r42 dX5_addPair_249 ?_
          refine v_iload_n C 3 rfl rfl dX5_addPair_252 ?_
          refine v_iald C (nI 1) hA.k2 (vpi hA.n2 (vp_in_nI (by omega) (by decide))) (by rw [nI_clamp (by omega)]; rw [aI_tI1, if_pos rfl]) dX5_addPair_253 ?_
          exact v_iret C hRT (Nat.le_of_ble_eq_true rfl) (Nat.le_of_ble_eq_true rfl) dX5_addPair_254 ⟨_, rfl, Or.inl ⟨j, hj, rfl, hok, hA.of rfl rfl rfl rfl, by rw [add_0 hcc]; exact (addM (T := (sI S 61 (am 0) 0)) (x0 := 0) (c := 1) hA hV hj (by decide) (fun f a hf => hI_sI2 (fun z => hf z.1)) (fun _ => rfl) (fun _ _ _ => rfl) (fun _ _ => rfl) (fun _ _ _ _ => rfl) (fun hc k hk => absurd hc (by decide)) rfl), hI_sI1, by rw [add_0 hcc, clk_cn1]; try rfl⟩⟩
        · have hc1 : ¬ cn q (10 + j) = 0 := fun z => c34 (by rw [z]; decide)
          refine v_iconst C 4 (by decide) dX5_addPair_37 ?_
          refine v_iload_n C 2 rfl rfl dX5_addPair_38 ?_
          refine v_imul C dX5_addPair_39 ?_
          refine v_iconst C 2 (by decide) dX5_addPair_40 ?_
          refine v_aload_n C 1 rfl rfl dX5_addPair_41 ?_
          refine v_getR C (am 2) fl_RX5_13 hA.k0 hA.r42 dX5_addPair_42 ?_
          refine v_iload_n C 2 rfl rfl dX5_addPair_45 ?_
          refine v_iald C (nI (cn q (10 + j))) hA.k2 (vpi hA.n2 (vp_in_nI (by omega) (by decide))) ((congrArg _ (nI_clamp (by omega))).trans (hV.pm j hj)) dX5_addPair_46 ?_
          refine v_iconst C 1 (by decide) dX5_addPair_47 ?_
          refine v_isub C dX5_addPair_48 ?_
          refine v_imul C dX5_addPair_49 ?_
          refine v_iadd C dX5_addPair_50 ?_
          rw [at_L hc1]
          refine v_istore C [(5, .int (nI (4 * j + 2 * ((cn q (10 + j)) - 1)))), (4, .int 1), (0, .ref (am 0)), (1, .int (nI j)), (2, .int t), (3, .int u9)] (by decide) rfl dX5_addPair_51 ?_
          refine v_iload_n C 4 rfl rfl dX5_addPair_53 ?_
          refine v_aload_n C 2 rfl rfl dX5_addPair_54 ?_
          refine v_getR C (am 1) fl_RX5_9 hA.k0 hA.r41 dX5_addPair_55 ?_
          refine v_iload C 0 rfl dX5_addPair_58 ?_
          refine v_iald C (iO (zz q 1 j 2)) hA.k1 (vpi hA.n1 (vp_in_nI (by omega) (by decide))) ((congrArg _ (nI_clamp (by omega))).trans (pr_last (k := 0) hV hB hj hc1 (by decide))) dX5_addPair_60 ?_
          refine v_isub C dX5_addPair_61 ?_
          refine v_istore C [(6, .int (t - (iO (zz q 1 j 2)))), (5, .int (nI (4 * j + 2 * ((cn q (10 + j)) - 1)))), (4, .int 1), (0, .ref (am 0)), (1, .int (nI j)), (2, .int t), (3, .int u9)] (by decide) rfl dX5_addPair_62 ?_
          refine v_iload_n C 6 rfl rfl dX5_addPair_64 ?_
          refine v_aload_n C 3 rfl rfl dX5_addPair_65 ?_
          refine v_getR C (am 1) fl_RX5_9 hA.k0 hA.r41 dX5_addPair_66 ?_
          refine v_iload C 1 rfl dX5_addPair_69 ?_
          refine v_iconst C 1 (by decide) dX5_addPair_71 ?_
          refine v_iadd C dX5_addPair_72 ?_
          rw [show nI (4 * j + 2 * ((cn q (10 + j)) - 1)) + (1 : Int32) = nI (4 * j + 2 * ((cn q (10 + j)) - 1) + 1) from nI_s _ 1]
          refine v_iald C (iO (zz q 1 j 3)) hA.k1 (vpi hA.n1 (vp_in_nI (by omega) (by decide))) ((congrArg _ (nI_clamp (by omega))).trans (pr_last (k := 1) hV hB hj hc1 (by decide))) dX5_addPair_73 ?_
          refine v_isub C dX5_addPair_74 ?_
          refine v_istore C [(7, .int (u9 - (iO (zz q 1 j 3)))), (6, .int (t - (iO (zz q 1 j 2)))), (5, .int (nI (4 * j + 2 * ((cn q (10 + j)) - 1)))), (4, .int 1), (0, .ref (am 0)), (1, .int (nI j)), (2, .int t), (3, .int u9)] (by decide) rfl dX5_addPair_75 ?_
          refine v_iload C 3 rfl dX5_addPair_77 ?_
          refine v_if_eq C 109 (by decide) dX5_addPair_79 (fun q => absurd q (by decide)) (fun _ => ?_)
          refine v_iload C 1 rfl dX5_addPair_82 ?_
          refine v_if_le C 109 (by decide) dX5_addPair_84 (fun c84 => ?_) (fun c84 => ?_)
          · refine v_iconst C 0 (by decide) dX5_addPair_109 ?_
            refine v_istore C [(4, .int 0), (7, .int (u9 - (iO (zz q 1 j 3)))), (6, .int (t - (iO (zz q 1 j 2)))), (5, .int (nI (4 * j + 2 * ((cn q (10 + j)) - 1)))), (0, .ref (am 0)), (1, .int (nI j)), (2, .int t), (3, .int u9)] (by decide) rfl dX5_addPair_110 ?_
            refine v_aload_n C 4 rfl rfl dX5_addPair_112 ?_
            refine v_iload_n C 5 rfl rfl dX5_addPair_113 ?_
            refine v_callSi C (st := [.ref (am 0)]) [.int (nI j)] (c_X5_isSensor l S (nI j)) ml_RX5_84 ms_yX5_isSensor rfl (Nat.le_of_ble_eq_true rfl) (Nat.le_of_ble_eq_true rfl) (Nat.le_of_ble_eq_true rfl) (Nat.le_of_ble_eq_true rfl) (Nat.le_of_ble_eq_true rfl) dX5_addPair_114 (fun r u h => ?_) _ rfl
            obtain ⟨rfl, rfl⟩ := h
            refine v_if_ne C 124 (by decide) dX5_addPair_117 (fun c117 => ?_) (fun q => (c25 q).elim)
            refine v_iload C 0 rfl dX5_addPair_124 ?_
            refine v_if_ne C 133 (by decide) dX5_addPair_126 (fun q => absurd (by decide) q) (fun _ => ?_)
            refine v_iconst C 2 (by decide) dX5_addPair_129 ?_
            refine v_goto C 134 (by decide) dX5_addPair_130 ?_
            refine v_putI C fl_RX5_62 hA.k0 rfl rfl dX5_addPair_134 ?_
            refine v_aload_n C 4 rfl rfl dX5_addPair_137 ?_
            refine v_getI C 2 fl_RX5_62 hA.k0 hI_sI1 dX5_addPair_138 ?_
            refine v_if_le C 146 (by decide) dX5_addPair_141 (fun q => absurd q (by decide)) (fun _ => ?_)
            refine v_iconst C (-1) (by decide) dX5_addPair_144 ?_
            exact v_iret C hRT (Nat.le_of_ble_eq_true rfl) (Nat.le_of_ble_eq_true rfl) dX5_addPair_145 ⟨_, rfl, Or.inr (Or.inr ⟨j, hj, rfl, fun z => by rcases z.2.2 with y | y; exact absurd (nI_z y (by omega)) hc1; exact y.1 c84, FrN.I, hI_sI1⟩)⟩
          · refine v_iconst C 2 (by decide) dX5_addPair_87 ?_
            refine v_iload C 0 rfl dX5_addPair_88 ?_
            refine v_imul C dX5_addPair_90 ?_
            refine v_iload C 1 rfl dX5_addPair_91 ?_
            refine v_icmp_lt C 109 (by decide) dX5_addPair_93 (fun c93 => ?_) (fun c93 => ?_)
            · refine v_iconst C 0 (by decide) dX5_addPair_109 ?_
              refine v_istore C [(4, .int 0), (7, .int (u9 - (iO (zz q 1 j 3)))), (6, .int (t - (iO (zz q 1 j 2)))), (5, .int (nI (4 * j + 2 * ((cn q (10 + j)) - 1)))), (0, .ref (am 0)), (1, .int (nI j)), (2, .int t), (3, .int u9)] (by decide) rfl dX5_addPair_110 ?_
              refine v_aload_n C 4 rfl rfl dX5_addPair_112 ?_
              refine v_iload_n C 5 rfl rfl dX5_addPair_113 ?_
              refine v_callSi C (st := [.ref (am 0)]) [.int (nI j)] (c_X5_isSensor l S (nI j)) ml_RX5_84 ms_yX5_isSensor rfl (Nat.le_of_ble_eq_true rfl) (Nat.le_of_ble_eq_true rfl) (Nat.le_of_ble_eq_true rfl) (Nat.le_of_ble_eq_true rfl) (Nat.le_of_ble_eq_true rfl) dX5_addPair_114 (fun r u h => ?_) _ rfl
              obtain ⟨rfl, rfl⟩ := h
              refine v_if_ne C 124 (by decide) dX5_addPair_117 (fun c117 => ?_) (fun q => (c25 q).elim)
              refine v_iload C 0 rfl dX5_addPair_124 ?_
              refine v_if_ne C 133 (by decide) dX5_addPair_126 (fun q => absurd (by decide) q) (fun _ => ?_)
              refine v_iconst C 2 (by decide) dX5_addPair_129 ?_
              refine v_goto C 134 (by decide) dX5_addPair_130 ?_
              refine v_putI C fl_RX5_62 hA.k0 rfl rfl dX5_addPair_134 ?_
              refine v_aload_n C 4 rfl rfl dX5_addPair_137 ?_
              refine v_getI C 2 fl_RX5_62 hA.k0 hI_sI1 dX5_addPair_138 ?_
              refine v_if_le C 146 (by decide) dX5_addPair_141 (fun q => absurd q (by decide)) (fun _ => ?_)
              refine v_iconst C (-1) (by decide) dX5_addPair_144 ?_
              exact v_iret C hRT (Nat.le_of_ble_eq_true rfl) (Nat.le_of_ble_eq_true rfl) dX5_addPair_145 ⟨_, rfl, Or.inr (Or.inr ⟨j, hj, rfl, fun z => by rcases z.2.2 with y | y; exact absurd (nI_z y (by omega)) hc1; exact y.2.1 c93, FrN.I, hI_sI1⟩)⟩
            · refine v_iload C 0 rfl dX5_addPair_96 ?_
              refine v_iconst C 2 (by decide) dX5_addPair_98 ?_
              refine v_iload C 1 rfl dX5_addPair_99 ?_
              refine v_imul C dX5_addPair_101 ?_
              refine v_icmp_gt C 109 (by decide) dX5_addPair_102 (fun c102 => ?_) (fun c102 => ?_)
              · refine v_iconst C 0 (by decide) dX5_addPair_109 ?_
                refine v_istore C [(4, .int 0), (7, .int (u9 - (iO (zz q 1 j 3)))), (6, .int (t - (iO (zz q 1 j 2)))), (5, .int (nI (4 * j + 2 * ((cn q (10 + j)) - 1)))), (0, .ref (am 0)), (1, .int (nI j)), (2, .int t), (3, .int u9)] (by decide) rfl dX5_addPair_110 ?_
                refine v_aload_n C 4 rfl rfl dX5_addPair_112 ?_
                refine v_iload_n C 5 rfl rfl dX5_addPair_113 ?_
                refine v_callSi C (st := [.ref (am 0)]) [.int (nI j)] (c_X5_isSensor l S (nI j)) ml_RX5_84 ms_yX5_isSensor rfl (Nat.le_of_ble_eq_true rfl) (Nat.le_of_ble_eq_true rfl) (Nat.le_of_ble_eq_true rfl) (Nat.le_of_ble_eq_true rfl) (Nat.le_of_ble_eq_true rfl) dX5_addPair_114 (fun r u h => ?_) _ rfl
                obtain ⟨rfl, rfl⟩ := h
                refine v_if_ne C 124 (by decide) dX5_addPair_117 (fun c117 => ?_) (fun q => (c25 q).elim)
                refine v_iload C 0 rfl dX5_addPair_124 ?_
                refine v_if_ne C 133 (by decide) dX5_addPair_126 (fun q => absurd (by decide) q) (fun _ => ?_)
                refine v_iconst C 2 (by decide) dX5_addPair_129 ?_
                refine v_goto C 134 (by decide) dX5_addPair_130 ?_
                refine v_putI C fl_RX5_62 hA.k0 rfl rfl dX5_addPair_134 ?_
                refine v_aload_n C 4 rfl rfl dX5_addPair_137 ?_
                refine v_getI C 2 fl_RX5_62 hA.k0 hI_sI1 dX5_addPair_138 ?_
                refine v_if_le C 146 (by decide) dX5_addPair_141 (fun q => absurd q (by decide)) (fun _ => ?_)
                refine v_iconst C (-1) (by decide) dX5_addPair_144 ?_
                exact v_iret C hRT (Nat.le_of_ble_eq_true rfl) (Nat.le_of_ble_eq_true rfl) dX5_addPair_145 ⟨_, rfl, Or.inr (Or.inr ⟨j, hj, rfl, fun z => by rcases z.2.2 with y | y; exact absurd (nI_z y (by omega)) hc1; exact y.2.2 c102, FrN.I, hI_sI1⟩)⟩
              · refine v_iconst C 1 (by decide) dX5_addPair_105 ?_
                refine v_goto C 110 (by decide) dX5_addPair_106 ?_
                refine v_istore C [(4, .int 1), (7, .int (u9 - (iO (zz q 1 j 3)))), (6, .int (t - (iO (zz q 1 j 2)))), (5, .int (nI (4 * j + 2 * ((cn q (10 + j)) - 1)))), (0, .ref (am 0)), (1, .int (nI j)), (2, .int t), (3, .int u9)] (by decide) rfl dX5_addPair_110 ?_
                refine v_aload_n C 4 rfl rfl dX5_addPair_112 ?_
                refine v_iload_n C 5 rfl rfl dX5_addPair_113 ?_
                refine v_callSi C (st := [.ref (am 0)]) [.int (nI j)] (c_X5_isSensor l S (nI j)) ml_RX5_84 ms_yX5_isSensor rfl (Nat.le_of_ble_eq_true rfl) (Nat.le_of_ble_eq_true rfl) (Nat.le_of_ble_eq_true rfl) (Nat.le_of_ble_eq_true rfl) (Nat.le_of_ble_eq_true rfl) dX5_addPair_114 (fun r u h => ?_) _ rfl
                obtain ⟨rfl, rfl⟩ := h
                refine v_if_ne C 124 (by decide) dX5_addPair_117 (fun c117 => ?_) (fun q => (c25 q).elim)
                refine v_iload C 0 rfl dX5_addPair_124 ?_
                refine v_if_ne C 133 (by decide) dX5_addPair_126 (fun _ => ?_) (fun q => absurd q (by decide))
                refine v_iconst C 0 (by decide) dX5_addPair_133 ?_
                refine v_putI C fl_RX5_62 hA.k0 rfl rfl dX5_addPair_134 ?_
                refine v_aload_n C 4 rfl rfl dX5_addPair_137 ?_
                refine v_getI C 0 fl_RX5_62 hA.k0 hI_sI1 dX5_addPair_138 ?_
                refine v_if_le C 146 (by decide) dX5_addPair_141 (fun _ => ?_) (fun q => absurd (by decide) q)
                have n12 : am 1 ≠ am 2 := fun z => absurd (hA.jj 1 (by decide) 2 (by decide) z) (by decide)
                have hok : okAdd q j t u9 := ⟨(bI_n0 c4 : (¬ t < 0 ∧ ¬ 9999 < t)), (bI_n0 c11 : (¬ u9 < 0 ∧ ¬ 9999 < u9)), Or.inr ⟨Int32.not_le.mpr (Int32.not_le.mp c84), c93, c102⟩⟩
                refine v_iconst C 4 (by decide) dX5_addPair_146 ?_
                refine v_iload_n C 5 rfl rfl dX5_addPair_147 ?_
                refine v_imul C dX5_addPair_148 ?_
                rw [ix40]
                refine v_istore C [(5, .int (nI (4 * j))), (4, .int 1), (7, .int (u9 - (iO (zz q 1 j 3)))), (6, .int (t - (iO (zz q 1 j 2)))), (0, .ref (am 0)), (1, .int (nI j)), (2, .int t), (3, .int u9)] (by decide) rfl dX5_addPair_149 ?_
                refine v_aload_n C 4 rfl rfl dX5_addPair_151 ?_
                refine v_getR C (am 2) fl_RX5_13 hA.k0 hA.r42 dX5_addPair_152 ?_
                refine v_iload_n C 5 rfl rfl dX5_addPair_155 ?_
                refine v_iald C (nI (cn q (10 + j))) hA.k2 (vpi hA.n2 (vp_in_nI (by omega) (by decide))) ((congrArg _ (nI_clamp (by omega))).trans (hV.pm j hj)) dX5_addPair_156 ?_
                refine v_iconst C 2 (by decide) dX5_addPair_157 ?_
                refine v_icmp_ne C 202 (by decide) dX5_addPair_158 (fun c158 => ?_) (fun c158 => ?_)
                · have hcc : cn q (10 + j) = 1 := by have : ¬ cn q (10 + j) = 2 := fun z => c158 (by rw [z]; rfl); omega
                  refine v_aload_n C 4 rfl rfl dX5_addPair_202 ?_
                  refine v_getR C (am 1) fl_RX5_9 hA.k0 hA.r41 dX5_addPair_203 ?_
                  refine v_iload C 0 rfl dX5_addPair_206 ?_
                  refine v_iconst C 2 (by decide) dX5_addPair_208 ?_
                  refine v_aload_n C 4 rfl rfl dX5_addPair_209 ?_
                  refine v_getR C (am 2) fl_RX5_13 hA.k0 hA.r42 dX5_addPair_210 ?_
                  refine v_iload_n C 5 rfl rfl dX5_addPair_213 ?_
                  refine v_iald C (nI (1)) hA.k2 (vpi hA.n2 (vp_in_nI (by omega) (by decide))) (by rw [nI_clamp (by omega)]; exact (hV.pm j hj).trans (congrArg nI hcc)) dX5_addPair_214 ?_
                  refine v_imul C dX5_addPair_215 ?_
                  refine v_iadd C dX5_addPair_216 ?_
                  rw [show ((nI (4 * j)) + (2 * (nI (1)))) = nI (4 * j + 2) from at_2 (j := j) (c := 1)]
                  refine v_iload_n C 6 rfl rfl dX5_addPair_217 ?_
                  refine v_iastj C (4 * j + 2) (nI_clamp (by omega)) hA.k1 (vpi hA.n1 (vp_in_nI (by omega) (by decide))) dX5_addPair_218 ?_
                  refine v_aload_n C 4 rfl rfl dX5_addPair_219 ?_
                  refine v_getR C (am 1) fl_RX5_9 hA.k0 hA.r41 dX5_addPair_220 ?_
                  refine v_iload C 0 rfl dX5_addPair_223 ?_
                  refine v_iconst C 2 (by decide) dX5_addPair_225 ?_
                  refine v_aload_n C 4 rfl rfl dX5_addPair_226 ?_
                  refine v_getR C (am 2) fl_RX5_13 hA.k0 hA.r42 dX5_addPair_227 ?_
                  refine v_iload_n C 5 rfl rfl dX5_addPair_230 ?_
                  refine v_iald C (nI (1)) hA.k2 (vpi hA.n2 (vp_in_nI (by omega) (by decide))) (by rw [nI_clamp (by omega)]; rw [aI_tI2 n12.symm]; exact (hV.pm j hj).trans (congrArg nI hcc)) dX5_addPair_231 ?_
                  refine v_imul C dX5_addPair_232 ?_
                  refine v_iadd C dX5_addPair_233 ?_
                  refine v_iconst C 1 (by decide) dX5_addPair_234 ?_
                  refine v_iadd C dX5_addPair_235 ?_
                  rw [show (((nI (4 * j)) + (2 * (nI (1)))) + 1) = nI (4 * j + 2 + 1) from (congrArg (· + (1 : Int32)) (at_2 (j := j) (c := 1))).trans (nI_s _ 1)]
                  refine v_iload_n C 7 rfl rfl dX5_addPair_236 ?_
                  refine v_iastj C (4 * j + 2 + 1) (nI_clamp (by omega)) hA.k1 (vpi hA.n1 (vp_in_nI (by omega) (by decide))) dX5_addPair_237 ?_
                  refine v_aload_n C 4 rfl rfl dX5_addPair_238 ?_
                  refine v_getR C (am 2) fl_RX5_13 hA.k0 hA.r42 dX5_addPair_239 ?_
                  refine v_iload_n C 5 rfl rfl dX5_addPair_242 ?_
                  refine v_dup2 C rfl rfl dX5_addPair_243 ?_
                  refine v_iald C (nI (1)) hA.k2 (vpi hA.n2 (vp_in_nI (by omega) (by decide))) (by rw [nI_clamp (by omega)]; rw [aI_tI2 n12.symm]; rw [aI_tI2 n12.symm]; exact (hV.pm j hj).trans (congrArg nI hcc)) dX5_addPair_244 ?_
                  refine v_iconst C 1 (by decide) dX5_addPair_245 ?_
                  refine v_iadd C dX5_addPair_246 ?_
                  rw [show ((nI (1)) + 1) = nI 2 from rfl]
                  refine v_iastj C j (nI_clamp (by omega)) hA.k2 (vpi hA.n2 (vp_in_nI (by omega) (by decide))) dX5_addPair_247 ?_
                  refine v_aload_n C 4 rfl rfl dX5_addPair_248 ?_
                  refine v_getR C (am 2) fl_RX5_13 hA.k0 hA.r42 dX5_addPair_249 ?_
                  refine v_iload_n C 5 rfl rfl dX5_addPair_252 ?_
                  refine v_iald C (nI 2) hA.k2 (vpi hA.n2 (vp_in_nI (by omega) (by decide))) (by rw [nI_clamp (by omega)]; rw [aI_tI1, if_pos rfl]) dX5_addPair_253 ?_
                  exact v_iret C hRT (Nat.le_of_ble_eq_true rfl) (Nat.le_of_ble_eq_true rfl) dX5_addPair_254 ⟨_, rfl, Or.inl ⟨j, hj, rfl, hok, hA.of rfl rfl rfl rfl, by rw [add_1 hc1]; exact (have hc1e : ∀ k, k < 2 → aI S (am 1) (4 * j + k) = iO (zz q 1 j (k + 2)) := fun k hk => hV.p1 j hj hcc k hk; addM (T := (sI S 61 (am 0) 0)) (x0 := 2) (c := 2) hA hV hj (by decide) (fun f a hf => hI_sI2 (fun z => hf z.1)) (fun _ => rfl) (fun _ _ _ => rfl) (fun _ _ => rfl) (fun _ _ _ _ => rfl) (fun hc k hk => hc1e k hk) rfl), hI_sI1, by rw [add_1 hc1, clk_cn1]; try rfl⟩⟩
                · have hcc : cn q (10 + j) = 2 := nI_inj (b := 2) c158 (by omega) (by decide)
                  refine v_aload_n C 4 rfl rfl dX5_addPair_161 ?_
                  refine v_getR C (am 1) fl_RX5_9 hA.k0 hA.r41 dX5_addPair_162 ?_
                  refine v_iload C 0 rfl dX5_addPair_165 ?_
                  refine v_aload_n C 4 rfl rfl dX5_addPair_167 ?_
                  refine v_getR C (am 1) fl_RX5_9 hA.k0 hA.r41 dX5_addPair_168 ?_
                  refine v_iload C 0 rfl dX5_addPair_171 ?_
                  refine v_iconst C 2 (by decide) dX5_addPair_173 ?_
                  refine v_iadd C dX5_addPair_174 ?_
                  rw [show nI (4 * j) + (2 : Int32) = nI (4 * j + 2) from nI_s _ 2]
                  refine v_iald C (iO (zz q 1 j 2)) hA.k1 (vpi hA.n1 (vp_in_nI (by omega) (by decide))) (by rw [nI_clamp (by omega)]; exact hV.p2 j hj hcc 2 (by decide)) dX5_addPair_175 ?_
                  refine v_iastj C (4 * j) (nI_clamp (by omega)) hA.k1 (vpi hA.n1 (vp_in_nI (by omega) (by decide))) dX5_addPair_176 ?_
                  refine v_aload_n C 4 rfl rfl dX5_addPair_177 ?_
                  refine v_getR C (am 1) fl_RX5_9 hA.k0 hA.r41 dX5_addPair_178 ?_
                  refine v_iload C 0 rfl dX5_addPair_181 ?_
                  refine v_iconst C 1 (by decide) dX5_addPair_183 ?_
                  refine v_iadd C dX5_addPair_184 ?_
                  rw [show nI (4 * j) + (1 : Int32) = nI (4 * j + 1) from nI_s _ 1]
                  refine v_aload_n C 4 rfl rfl dX5_addPair_185 ?_
                  refine v_getR C (am 1) fl_RX5_9 hA.k0 hA.r41 dX5_addPair_186 ?_
                  refine v_iload C 0 rfl dX5_addPair_189 ?_
                  refine v_iconst C 3 (by decide) dX5_addPair_191 ?_
                  refine v_iadd C dX5_addPair_192 ?_
                  rw [show nI (4 * j) + (3 : Int32) = nI (4 * j + 3) from nI_s _ 3]
                  refine v_iald C (iO (zz q 1 j 3)) hA.k1 (vpi hA.n1 (vp_in_nI (by omega) (by decide))) (by rw [nI_clamp (by omega)]; rw [aI_tI1, if_neg (by omega)]; exact hV.p2 j hj hcc 3 (by decide)) dX5_addPair_193 ?_
                  refine v_iastj C (4 * j + 1) (nI_clamp (by omega)) hA.k1 (vpi hA.n1 (vp_in_nI (by omega) (by decide))) dX5_addPair_194 ?_
                  refine v_aload_n C 4 rfl rfl dX5_addPair_195 ?_
                  refine v_getR C (am 2) fl_RX5_13 hA.k0 hA.r42 dX5_addPair_196 ?_
                  refine v_iload_n C 5 rfl rfl dX5_addPair_199 ?_
                  refine v_iconst C 1 (by decide) dX5_addPair_200 ?_
                  refine v_iastj C j (nI_clamp (by omega)) hA.k2 (vpi hA.n2 (vp_in_nI (by omega) (by decide))) dX5_addPair_201 ?_
                  refine v_aload_n C 4 rfl rfl dX5_addPair_202 ?_
                  refine v_getR C (am 1) fl_RX5_9 hA.k0 hA.r41 dX5_addPair_203 ?_
                  refine v_iload C 0 rfl dX5_addPair_206 ?_
                  refine v_iconst C 2 (by decide) dX5_addPair_208 ?_
                  refine v_aload_n C 4 rfl rfl dX5_addPair_209 ?_
                  refine v_getR C (am 2) fl_RX5_13 hA.k0 hA.r42 dX5_addPair_210 ?_
                  refine v_iload_n C 5 rfl rfl dX5_addPair_213 ?_
                  refine v_iald C 1 hA.k2 (vpi hA.n2 (vp_in_nI (by omega) (by decide))) (by rw [nI_clamp (by omega)]; rw [aI_tI1, if_pos rfl]) dX5_addPair_214 ?_
                  refine v_imul C dX5_addPair_215 ?_
                  refine v_iadd C dX5_addPair_216 ?_
                  rw [show ((nI (4 * j)) + (2 * 1)) = nI (4 * j + 2) from at_2 (j := j) (c := 1)]
                  refine v_iload_n C 6 rfl rfl dX5_addPair_217 ?_
                  refine v_iastj C (4 * j + 2) (nI_clamp (by omega)) hA.k1 (vpi hA.n1 (vp_in_nI (by omega) (by decide))) dX5_addPair_218 ?_
                  refine v_aload_n C 4 rfl rfl dX5_addPair_219 ?_
                  refine v_getR C (am 1) fl_RX5_9 hA.k0 hA.r41 dX5_addPair_220 ?_
                  refine v_iload C 0 rfl dX5_addPair_223 ?_
                  refine v_iconst C 2 (by decide) dX5_addPair_225 ?_
                  refine v_aload_n C 4 rfl rfl dX5_addPair_226 ?_
                  refine v_getR C (am 2) fl_RX5_13 hA.k0 hA.r42 dX5_addPair_227 ?_
                  refine v_iload_n C 5 rfl rfl dX5_addPair_230 ?_
                  refine v_iald C 1 hA.k2 (vpi hA.n2 (vp_in_nI (by omega) (by decide))) (by rw [nI_clamp (by omega)]; rw [aI_tI2 n12.symm]; rw [aI_tI1, if_pos rfl]) dX5_addPair_231 ?_
                  refine v_imul C dX5_addPair_232 ?_
                  refine v_iadd C dX5_addPair_233 ?_
                  refine v_iconst C 1 (by decide) dX5_addPair_234 ?_
                  refine v_iadd C dX5_addPair_235 ?_
                  rw [show (((nI (4 * j)) + (2 * 1)) + 1) = nI (4 * j + 2 + 1) from (congrArg (· + (1 : Int32)) (at_2 (j := j) (c := 1))).trans (nI_s _ 1)]
                  refine v_iload_n C 7 rfl rfl dX5_addPair_236 ?_
                  refine v_iastj C (4 * j + 2 + 1) (nI_clamp (by omega)) hA.k1 (vpi hA.n1 (vp_in_nI (by omega) (by decide))) dX5_addPair_237 ?_
                  refine v_aload_n C 4 rfl rfl dX5_addPair_238 ?_
                  refine v_getR C (am 2) fl_RX5_13 hA.k0 hA.r42 dX5_addPair_239 ?_
                  refine v_iload_n C 5 rfl rfl dX5_addPair_242 ?_
                  refine v_dup2 C rfl rfl dX5_addPair_243 ?_
                  refine v_iald C 1 hA.k2 (vpi hA.n2 (vp_in_nI (by omega) (by decide))) (by rw [nI_clamp (by omega)]; rw [aI_tI2 n12.symm]; rw [aI_tI2 n12.symm]; rw [aI_tI1, if_pos rfl]) dX5_addPair_244 ?_
                  refine v_iconst C 1 (by decide) dX5_addPair_245 ?_
                  refine v_iadd C dX5_addPair_246 ?_
                  rw [show (1 + 1) = nI 2 from rfl]
                  refine v_iastj C j (nI_clamp (by omega)) hA.k2 (vpi hA.n2 (vp_in_nI (by omega) (by decide))) dX5_addPair_247 ?_
                  refine v_aload_n C 4 rfl rfl dX5_addPair_248 ?_
                  refine v_getR C (am 2) fl_RX5_13 hA.k0 hA.r42 dX5_addPair_249 ?_
                  refine v_iload_n C 5 rfl rfl dX5_addPair_252 ?_
                  refine v_iald C (nI 2) hA.k2 (vpi hA.n2 (vp_in_nI (by omega) (by decide))) (by rw [nI_clamp (by omega)]; rw [aI_tI1, if_pos rfl]) dX5_addPair_253 ?_
                  exact v_iret C hRT (Nat.le_of_ble_eq_true rfl) (Nat.le_of_ble_eq_true rfl) dX5_addPair_254 ⟨_, rfl, Or.inl ⟨j, hj, rfl, hok, hA.of rfl rfl rfl rfl, by rw [add_1 hc1]; exact (addM (T := (tI (tI (tI (sI S 61 (am 0) 0) (am 1) (4 * j) (iO (zz q 1 j 2))) (am 1) (4 * j + 1) (iO (zz q 1 j 3))) (am 2) j 1)) (x0 := 2) (c := 2) hA hV hj (by decide) (fun f a hf => hI_sI2 (fun z => hf z.1)) (fun _ => rfl) (fun a h1 h2 => (aI_tI2 h2).trans ((aI_tI2 h1).trans (aI_tI2 h1))) (fun i hi => by rw [aI_tI1, if_neg hi, aI_tI2 n12.symm, aI_tI2 n12.symm]; rfl) (fun i hi k hk => by rw [aI_tI2 n12, aI_tI1, if_neg (by omega), aI_tI1, if_neg (by omega)]; rfl) (fun _ k hk => by rcases (show k = 0 ∨ k = 1 by omega) with rfl | rfl; rw [aI_tI2 n12, aI_tI1, if_neg (by omega), aI_tI1, if_pos (by omega)]; rw [aI_tI2 n12, aI_tI1, if_pos (by omega)]) rfl), hI_sI1, by rw [add_1 hc1, clk_cn1]; try rfl⟩⟩
