theorem XV.mss {S : HS} {ad : AD} {q : AS} {t : Nat} (hA : XA S ad (cn q 1)) (hV : XV S ad q) (ht : t < cn q 1) (hl : zz q 3 t 7 = 0) :
    XV (missS S (ad 6 t) (ad 7 t) (cn q (100 + t)) (iO (zz q 0 0 3))) ad (mssA q t) := by
  have w6 : hI S 23 (ad 6 t) = iO (zz q 3 t 6) := hV.tv t ht 6 (by decide)
  have w24 := hV.t24 t ht
  have w25 := hV.t25 t ht
  have w27 := hV.t27 t ht
  have o : (1 : Int32) = iO 1 := rfl
  have wk : ∀ k, k < 6 → hI S (17 + k) (ad 6 t) = iO (zz q 3 t k) := fun k hk => hV.tv t ht k (by omega)
  have e6 : hI S 23 (ad 6 t) + 1 = iO (zz q 3 t 6 + 1) := by rw [w6, o, iO_add]
  have ez : ∀ k, k ≠ 6 → zz (zs q 3 t 6 (zz q 3 t 6 + 1)) 3 t k = zz q 3 t k := fun k hk => by rw [zz_zs, if_neg (fun z => hk z.2.2)]
  have ez6 : zz (zs q 3 t 6 (zz q 3 t 6 + 1)) 3 t 6 = zz q 3 t 6 + 1 := by rw [zz_zs, if_pos ⟨rfl, rfl, rfl⟩]
  have hs4 : ∀ j, j < cn q (100 + t) → aI S (ad 7 t) j = iO (zz q 4 t j) := hV.sg t ht
  by_cases hc : iO (zz q 3 t 6) + 1 < iO (zz q 0 0 3)
  · have eS : missS S (ad 6 t) (ad 7 t) (cn q (100 + t)) (iO (zz q 0 0 3)) = noteS (sI S 23 (ad 6 t) (iO (zz q 3 t 6 + 1))) (ad 6 t) (ad 7 t) (cn q (100 + t)) 120 := by
      unfold missS
      rw [if_pos (by rw [w6]; exact hc), e6]
    have eA : mssA q t = ntA (zs q 3 t 6 (zz q 3 t 6 + 1)) t 120 := by
      unfold mssA
      dsimp only
      rw [if_pos hc]
    refine XV.trk hA hV FrT.mss QT.mss ht (fun k hk => ?_) ?_ ?_ ?_ (fun j hj => ?_)
    all_goals rw [eS]
    all_goals rw [eA] at *
    · rw [zz_nt3]
      by_cases h6 : k = 6
      · subst h6
        rw [ez6]
        simp [noteS, hI_sI, hI_tI]
      · rw [ez k h6, ← wk k (by omega), hI_note (fun z => absurd z.1 (by omega)), hI_sI2 (fun z => absurd z.1 (by omega))]
    · rw [zz_nt3, ez 7 (by decide), ← w24]; simp [noteS, hI_sI, hI_tI]
    · rw [zz_nt3, zz_nt3, ez 7 (by decide), ez 8 (by decide), ← w25]; simp [noteS, hI_sI, hI_tI]
    · rw [cn_nt1, cn_zs]; simp [noteS, hI_sI, nI_1]
    · rw [cn_nt1, cn_zs] at hj
      exact vs_nt (S := sI S 23 (ad 6 t) (iO (zz q 3 t 6 + 1))) (q := zs q 3 t 6 (zz q 3 t 6 + 1)) (z := 120) rfl rfl (fun j hj => by rw [zz_zs, if_neg (by omega)]; exact hs4 j hj) j hj
  · have eS : missS S (ad 6 t) (ad 7 t) (cn q (100 + t)) (iO (zz q 0 0 3)) = noteS (sI (noteS (sI S 23 (ad 6 t) (iO (zz q 3 t 6 + 1))) (ad 6 t) (ad 7 t) (cn q (100 + t)) 120) 24 (ad 6 t) 0) (ad 6 t) (ad 7 t) (cn q (100 + t) + 1) 108 := by
      unfold missS
      rw [if_neg (by rw [w6]; exact hc), e6]
    have eA : mssA q t = ntA (zs (ntA (zs q 3 t 6 (zz q 3 t 6 + 1)) t 120) 3 t 7 1) t 108 := by
      unfold mssA
      dsimp only
      rw [if_neg hc]
    have e7 : ∀ k, k ≠ 7 → zz (zs (ntA (zs q 3 t 6 (zz q 3 t 6 + 1)) t 120) 3 t 7 1) 3 t k = zz (zs q 3 t 6 (zz q 3 t 6 + 1)) 3 t k := fun k hk => by rw [zz_zs, if_neg (fun z => hk z.2.2), zz_nt3]
    have e77 : zz (zs (ntA (zs q 3 t 6 (zz q 3 t 6 + 1)) t 120) 3 t 7 1) 3 t 7 = 1 := by rw [zz_zs, if_pos ⟨rfl, rfl, rfl⟩]
    refine XV.trk hA hV FrT.mss QT.mss ht (fun k hk => ?_) ?_ ?_ ?_ (fun j hj => ?_)
    all_goals rw [eS]
    all_goals rw [eA] at *
    · rw [zz_nt3, e7 k (by omega)]
      by_cases h6 : k = 6
      · subst h6
        rw [ez6]
        simp [noteS, hI_sI, hI_tI]
      · rw [ez k h6, ← wk k (by omega), hI_note (fun z => absurd z.1 (by omega)), hI_sI2 (fun z => absurd z.1 (by omega)), hI_note (fun z => absurd z.1 (by omega)), hI_sI2 (fun z => absurd z.1 (by omega))]
    · rw [zz_nt3, e77]; simp [noteS, hI_sI, hI_tI]; rfl
    · rw [zz_nt3, zz_nt3, e77, if_neg (by decide)]
      rw [if_neg (by rw [hl]; decide)] at w25
      rw [← w25]
      simp [noteS, hI_sI, hI_tI]
    · rw [cn_nt1, cn_zs, cn_nt1, cn_zs]; simp [noteS, hI_sI, nI_1]
    · rw [cn_nt1, cn_zs, cn_nt1, cn_zs] at hj
      refine vs_nt (S := sI (noteS (sI S 23 (ad 6 t) (iO (zz q 3 t 6 + 1))) (ad 6 t) (ad 7 t) (cn q (100 + t)) 120) 24 (ad 6 t) 0) (q := zs (ntA (zs q 3 t 6 (zz q 3 t 6 + 1)) t 120) 3 t 7 1) (z := 108) (by rw [cn_zs, cn_nt1, cn_zs]) rfl (fun j hj => ?_) j (by rw [cn_zs, cn_nt1, cn_zs]; exact hj)
      rw [cn_zs, cn_nt1, cn_zs] at hj
      rw [zz_zs, if_neg (by omega)]
      exact vs_nt (S := sI S 23 (ad 6 t) (iO (zz q 3 t 6 + 1))) (q := zs q 3 t 6 (zz q 3 t 6 + 1)) (z := 120) rfl rfl (fun j hj => by rw [zz_zs, if_neg (by omega)]; exact hs4 j hj) j hj
theorem anyP_cong {p q : Nat → Bool} : ∀ {n : Nat}, (∀ j, j < n → p j = q j) → anyP p n = anyP q n
  | 0, _ => rfl
  | n + 1, h => by
    show (anyP p n || p n) = (anyP q n || q n)
    rw [anyP_cong (fun j hj => h j (by omega)), h n (by omega)]
theorem hasR_O {T : HS} {ad : AD} {q : AS} (hW : XW T ad q) {i : Nat} (hi : i ≤ 6) (hlv : lcn q ≤ 6) : anyP (fun r => decide (aI T (ad 13 0) r = nI i)) (cn q 0) = hasR q i := by
  unfold hasR
  refine anyP_cong (fun r hr => ?_)
  have hb := tkr_bd q hr
  have e := iO_eq (a := tkr q r) (b := (i : Int)) (by omega) (by omega) (by omega) (by omega)
  rw [hW.2.2.2 r hr, nI_iO]
  by_cases h : tkr q r = (i : Int)
  · rw [decide_eq_true h, decide_eq_true (e.mpr h)]
  · rw [decide_eq_false h, decide_eq_false (fun z => h (e.mp z))]
theorem MS_t {q : AS} {i : Nat} (h : hasR q i = true) : MS q (i + 1) = MS q i := if_pos h
theorem MS_f {q : AS} {i : Nat} (h : ¬ hasR q i = true) : MS q (i + 1) = mssA (MS q i) (lti q i) := if_neg h
theorem MS_live {q : AS} (hB : BI q) (hh : ∀ t, t < cn q 1 → cn q (100 + t) ≤ 400) {i : Nat} (hi : i < lcn q) : zz (MS q i) 3 (lti q i) 7 = 0 := by
  obtain ⟨h1, h2, h3, h4, h6⟩ := MS_I hB hh i (by omega)
  obtain ⟨f1, f2, f3, f4, f5⟩ := FS_I hB hh (cn q 0) (Nat.le_refl _)
  rw [(h3 i (Nat.le_refl _) hi).1, (f3 _).1]
  exact (lti_lt q hi).2
set_option maxRecDepth 100000 in
set_option maxHeartbeats 4000000 in
theorem lp_X4_missOthers {l : Launch} {pP : Program} {eE : Env} {sS : State} {mM : MethodId} {aA : Array Value} {bB : List Frame} {tT : Method} {cC : Code} {G : GT} {A : Nat → Prop} {Q : State → Prop}  (S : HS) (ad : AD) (q : AS) (hB : BI q) (hh : ∀ t, t < cn q 1 → cn q (100 + t) ≤ 400)  (C : Cx pP l eE (rmD 5 0 0) sS mM aA bB tT cC cX4_missOthers 3 RX4 G A) (kk : ∀ T : HS, XA T ad (cn q 1) ∧ XV T ad (MS q (lcn q)) ∧ XW T ad q → V pP l eE (rmD 5 0 0) sS mM aA bB tT cC 3 G A T 0 0 Q 51 [(0, .ref (ad 0 0)), (1, .int (nI (lcn q)))] []) : ∀ (N : Nat) (i : Nat) (T : HS), (hN9 : lcn q + 1 ≤ i + N) → (hi : i ≤ lcn q) → (hinv : XA T ad (cn q 1) ∧ XV T ad (MS q i) ∧ XW T ad q) → V pP l eE (rmD 5 0 0) sS mM aA bB tT cC 3 G A T 0 0 Q 2 [(0, .ref (ad 0 0)), (1, .int (nI i))] [] := by
  intro N
  induction N with
  | zero =>
    intro i T hN9 hi hinv
    exact absurd hN9 (by omega)
  | succ N ih =>
    intro i T hN9 hi hinv
    obtain ⟨hAT, hVT, hW⟩ := hinv
    obtain ⟨m1, m2, m3, m4, m6⟩ := MS_I hB hh i hi
    have hlv : lcn q ≤ 6 := hB.bv
    have e1 := m2.1 1 (by decide)
    refine v_iload_n C 1 rfl rfl dX4_missOthers_2 ?_
    refine v_aload_n C 0 rfl rfl dX4_missOthers_3 ?_
    refine v_getR C (ad 8 0) fl_RX4_30 hAT.k0 hAT.r33 dX4_missOthers_4 ?_
    refine v_getI C (nI (lcn q)) fl_RX4_201 hAT.k8 hW.2.1 dX4_missOthers_7 ?_
    refine v_icmp_ge C 51 (by decide) dX4_missOthers_10 (fun c10 => ?_) (fun c10 => ?_)
    · obtain rfl : i = lcn q := by have := nge c10 (by omega); omega
      exact V.sub [0, 1] rfl (kk T ⟨hAT, hVT, hW⟩)
    · have hlt : i < lcn q := nlt c10 (by omega)
      have htn := (lti_lt q hlt).1
      have hq4 : cn (MS q i) (100 + lti q i) + 1 < 512 := by have := m4 _ htn; have := hh _ htn; omega
      refine v_aload_n C 0 rfl rfl dX4_missOthers_13 ?_
      refine v_getR C (ad 8 0) fl_RX4_30 hAT.k0 hAT.r33 dX4_missOthers_14 ?_
      refine v_iload_n C 1 rfl rfl dX4_missOthers_17 ?_
      refine v_callVq C (st := []) [.int (nI i)] (c_X1_trackAt_y l T (ad 8 0) (ad 9 0) (lcn q) i hAT.k8 hAT.k9 hAT.r7 hAT.n9 hW.2.1 hlv hlt) ml_RX4_204 mi_yX1_trackAt hAT.k8 (by decide) (by decide +kernel) rfl (Nat.le_of_ble_eq_true rfl) (Nat.le_of_ble_eq_true rfl) (Nat.le_of_ble_eq_true rfl) (Nat.le_of_ble_eq_true rfl) (Nat.le_of_ble_eq_true rfl) dX4_missOthers_18 (fun r u h => ?_) _ rfl
      obtain ⟨hz, rfl⟩ := h
      rw [hW.2.2.1 i hlt] at hz
      subst hz
      refine v_astore_n C [(2, .ref (ad 6 (lti q i))), (0, .ref (ad 0 0)), (1, .int (nI i))] (by decide) rfl rfl dX4_missOthers_21 ?_
      refine v_aload_n C 0 rfl rfl dX4_missOthers_22 ?_
      refine v_ifnull C dX4_missOthers_23 ?_
      refine v_aload_n C 1 rfl rfl dX4_missOthers_26 ?_
      refine v_getR C (ad 8 0) fl_RX4_30 hAT.k0 hAT.r33 dX4_missOthers_27 ?_
      refine v_iload_n C 2 rfl rfl dX4_missOthers_30 ?_
      refine v_callVi C (st := []) [.int (nI i)] (c_X1_hasReportFor l T (ad 8 0) (ad 13 0) (cn q 0) (nI i) hAT.k8 hAT.k13 hAT.r11 hAT.n13 hW.1 hB.b0) ml_RX4_236 mi_yX1_hasReportFor hAT.k8 (by decide) (by decide +kernel) rfl (Nat.le_of_ble_eq_true rfl) (Nat.le_of_ble_eq_true rfl) (Nat.le_of_ble_eq_true rfl) (Nat.le_of_ble_eq_true rfl) (Nat.le_of_ble_eq_true rfl) dX4_missOthers_31 (fun r u h => ?_) _ rfl
      obtain ⟨rfl, rfl⟩ := h
      rw [hasR_O hW (by omega) hlv]
      refine v_if_ne C 45 (by decide) dX4_missOthers_34 (fun c34 => ?_) (fun c34 => ?_)
      · refine v_iinc C (nI (i + 1)) 2 [(1, .int (nI (i + 1))), (2, .ref (ad 6 (lti q i))), (0, .ref (ad 0 0))] rfl (by rw [← nI_1]; rfl) (by decide) rfl dX4_missOthers_45 ?_
        refine v_goto C 2 (by decide) dX4_missOthers_48 ?_
        have ef := MS_t (bI_n0 c34)
        exact V.sub [2, 0] rfl (ih (i + 1) T (by omega) hlt ⟨hAT, by rw [ef]; exact hVT, hW⟩)
      · refine v_aload_n C 0 rfl rfl dX4_missOthers_37 ?_
        refine v_aload_n C 1 rfl rfl dX4_missOthers_38 ?_
        refine v_getI C (iO (zz (MS q i) 0 0 3)) fl_RX4_44 hAT.k0 hVT.v37 dX4_missOthers_39 ?_
        refine v_callVv C (st := []) [.int (iO (zz (MS q i) 0 0 3))] (c_X3_miss l T (ad 6 (lti q i)) (ad 7 (lti q i)) (cn (MS q i) (100 + lti q i)) (iO (zz (MS q i) 0 0 3)) (hAT.k6 _ htn) (hAT.k7 _ htn) (hAT.r26 _ htn) (hAT.n7 _ htn) (hVT.t27 _ (by omega)) hq4) ml_RX4_239 mi_yX3_miss (hAT.k6 _ htn) (by decide) (by decide +kernel) rfl (Nat.le_of_ble_eq_true rfl) (Nat.le_of_ble_eq_true rfl) (Nat.le_of_ble_eq_true rfl) (Nat.le_of_ble_eq_true rfl) (Nat.le_of_ble_eq_true rfl) dX4_missOthers_42 (fun u h => ?_) _ rfl
        subst h
        refine v_iinc C (nI (i + 1)) 2 [(1, .int (nI (i + 1))), (2, .ref (ad 6 (lti q i))), (0, .ref (ad 0 0))] rfl (by rw [← nI_1]; rfl) (by decide) rfl dX4_missOthers_45 ?_
        refine v_goto C 2 (by decide) dX4_missOthers_48 ?_
        have ef := MS_f (bI_e0 c34)
        exact V.sub [2, 0] rfl (ih (i + 1) (missS T (ad 6 (lti q i)) (ad 7 (lti q i)) (cn (MS q i) (100 + lti q i)) (iO (zz (MS q i) 0 0 3))) (by omega) hlt ⟨FrT.mss.toA hAT, by rw [ef]; exact XV.mss (by rw [e1]; exact hAT) hVT (by omega) (MS_live hB hh hlt), XW.T hAT htn FrT.mss hW⟩)
set_option maxRecDepth 100000 in
set_option maxHeartbeats 4000000 in
theorem c_X4_missOthers (l : Launch) (S : HS) (ad : AD) (q : AS) (hB : BI q) (hh : ∀ t, t < cn q 1 → cn q (100 + t) ≤ 400) (hA : XA S ad (cn q 1)) (hV : XV S ad (FS q (cn q 0))) (hW : XW S ad q) : cM l yX4_missOthers cX4_missOthers 3 (Option.none : Option Jvm.ClassFile.FieldType) 5 [.ref (ad 0 0)] S (pV fun u => XA u ad (cn q 1) ∧ XV u ad (MS q (lcn q)) ∧ XW u ad q) 0 0 := by
  refine cM_intro (by decide +kernel) cd_X4_missOthers (Nat.le_of_ble_eq_true rfl) ?_
  intro pP eE sS mM aA bB tT cC G A C hRT hin
  refine V.lvs (lv2 := [(0, .ref (ad 0 0))]) rfl ?_
  refine v_iconst C 0 (by decide) dX4_missOthers_0 ?_
  refine v_istore_n C [(1, .int 0), (0, .ref (ad 0 0))] (by decide) rfl rfl dX4_missOthers_1 ?_
  refine V.sub [1, 0] rfl (lp_X4_missOthers S ad q hB hh C (fun T hT => ?_) (lcn q + 1) 0 S (by omega) (by omega) ⟨hA, hV, hW⟩)
  exact v_vret C hRT (Nat.le_of_ble_eq_true rfl) (Nat.le_of_ble_eq_true rfl) dX4_missOthers_51 ⟨rfl, hT⟩
