theorem ixI {i : Int32} {n : Nat} (h : ¬ i < 0) (h2 : i < nI n) (hn : n < 2 ^ 31) : ∃ j, j < n ∧ i = nI j := by
  obtain ⟨j, hj, rfl⟩ := nI_of h
  exact ⟨j, by
    rcases Nat.lt_or_ge j n with z | z
    · exact z
    · exact absurd h2 (nI_nlt z hj), rfl⟩
theorem ixI2 {i : Int32} {n : Nat} (h : ¬ i < 0) (h2 : ¬ nI n ≤ i) (hn : n < 2 ^ 31) : ∃ j, j < n ∧ i = nI j := by
  obtain ⟨j, hj, rfl⟩ := nI_of h
  exact ⟨j, nlt h2 hj, rfl⟩
theorem bI_e0 {q : Prop} [Decidable q] (h : bI q = 0) : ¬ q := fun z => by rw [bI1 z] at h; exact absurd h (by decide)
theorem bI_n0 {q : Prop} [Decidable q] (h : ¬ bI q = 0) : q := Classical.byContradiction fun z => h (bI0 z)
abbrev eIO : String := "java/lang/IndexOutOfBoundsException"
abbrev eIA : String := "java/lang/IllegalArgumentException"
abbrev eIS : String := "java/lang/IllegalStateException"
abbrev eNE : String := "java/util/NoSuchElementException"
abbrev eAR : String := "java/lang/ArithmeticException"
set_option maxRecDepth 100000 in
set_option maxHeartbeats 4000000 in
theorem c_X4_refuseUnless (l : Launch) (hlf : l.stackTraces = false) (S : HS) (b : Int32) : cX l yX4_refuseUnless cX4_refuseUnless 1 (Option.none : Option Jvm.ClassFile.FieldType) 6 [.int b] S (pV fun u => S = u ∧ ¬ b = 0) (fun E u => E = eIA ∧ S = u ∧ b = 0) 1 6 := by
  refine cX_intro (by decide +kernel) cd_X4_refuseUnless (Nat.le_of_ble_eq_true rfl) ?_
  intro pP eE sS mM aA bB tT cC G A C hRT hnt
  refine V.lvs (lv2 := [(0, .int b)]) rfl ?_
  refine v_iload_n C 0 rfl rfl dX4_refuseUnless_0 ?_
  refine v_if_ne C 15 (by decide) dX4_refuseUnless_1 (fun c1 => ?_) (fun c1 => ?_)
  · exact v_xvret C hRT (Nat.le_of_ble_eq_true rfl) (Nat.le_of_ble_eq_true rfl) dX4_refuseUnless_15 ⟨rfl, rfl, c1⟩
  · exact v_throwSW C hlf tl_342_344 hnt (Nat.le_of_ble_eq_true rfl) (Nat.le_of_ble_eq_true rfl) (Nat.le_of_ble_eq_true rfl) (Nat.le_of_ble_eq_true rfl) (Nat.le_of_ble_eq_true rfl) (Nat.le_of_ble_eq_true rfl) (Nat.le_of_ble_eq_true rfl) ⟨rfl, rfl, c1⟩ dX4_refuseUnless_4 dX4_refuseUnless_7 dX4_refuseUnless_8 dX4_refuseUnless_11 dX4_refuseUnless_14
set_option maxRecDepth 100000 in
set_option maxHeartbeats 4000000 in
theorem c_X4_clockOf (l : Launch) (hlf : l.stackTraces = false) (S : HS) (ad : AD) (n : Nat) (i : Int32) (hA : XA S ad n) : cX l yX4_clockOf cX4_clockOf 2 (Option.some (Jvm.ClassFile.FieldType.object "TrackFusion$Clock")) 6 [.ref (ad 0 0), .int i] S (pQ fun r u => ∃ j, j < 4 ∧ i = nI j ∧ some (ad 2 j) = r ∧ S = u) (fun E u => E = eIO ∧ S = u ∧ (i < 0 ∨ ¬ i < 4)) 1 6 := by
  refine cX_intro (by decide +kernel) cd_X4_clockOf (Nat.le_of_ble_eq_true rfl) ?_
  intro pP eE sS mM aA bB tT cC G A C hRT hnt
  refine V.lvs (lv2 := [(0, .ref (ad 0 0)), (1, .int i)]) rfl ?_
  refine v_iload_n C 1 rfl rfl dX4_clockOf_0 ?_
  refine v_if_lt C 13 (by decide) dX4_clockOf_1 (fun c1 => ?_) (fun c1 => ?_)
  · exact v_throwS C hlf tl_79_81 hnt (Nat.le_of_ble_eq_true rfl) (Nat.le_of_ble_eq_true rfl) (Nat.le_of_ble_eq_true rfl) (Nat.le_of_ble_eq_true rfl) (Nat.le_of_ble_eq_true rfl) (Nat.le_of_ble_eq_true rfl) (Nat.le_of_ble_eq_true rfl) ⟨rfl, rfl, Or.inl c1⟩ dX4_clockOf_13 dX4_clockOf_16 dX4_clockOf_17 dX4_clockOf_19 dX4_clockOf_22
  · refine v_iload_n C 1 rfl rfl dX4_clockOf_4 ?_
    refine v_aload_n C 0 rfl rfl dX4_clockOf_5 ?_
    refine v_getR C (ad 1 0) fl_RX4_11 hA.k0 hA.r28 dX4_clockOf_6 ?_
    refine v_alen C 4 (kle hA.k1 (by decide)) (kge hA.k1 (by decide)) (by rw [hA.n1]; rfl) dX4_clockOf_9 ?_
    refine v_icmp_lt C 23 (by decide) dX4_clockOf_10 (fun c10 => ?_) (fun c10 => ?_)
    · obtain ⟨j, hj, rfl⟩ := ixI (n := 4) c1 c10 (by omega)
      refine v_aload_n C 0 rfl rfl dX4_clockOf_23 ?_
      refine v_getR C (ad 1 0) fl_RX4_11 hA.k0 hA.r28 dX4_clockOf_24 ?_
      refine v_iload_n C 1 rfl rfl dX4_clockOf_27 ?_
      refine v_aald C (some (ad 2 j)) (klt hA.k1 (by decide)) (kgt hA.k1 (by decide)) (by rw [hA.n1]; exact vp_in_nI hj (by decide)) ((congrArg _ (nI_clamp (by omega))).trans (hA.a1 j hj)) dX4_clockOf_28 ?_
      exact v_xaret (r := (some (ad 2 j))) C (Or.inl ⟨_, rfl⟩) hRT (Nat.le_of_ble_eq_true rfl) (Nat.le_of_ble_eq_true rfl) dX4_clockOf_29 ⟨_, rfl, j, hj, rfl, rfl, rfl⟩
    · exact v_throwS C hlf tl_79_81 hnt (Nat.le_of_ble_eq_true rfl) (Nat.le_of_ble_eq_true rfl) (Nat.le_of_ble_eq_true rfl) (Nat.le_of_ble_eq_true rfl) (Nat.le_of_ble_eq_true rfl) (Nat.le_of_ble_eq_true rfl) (Nat.le_of_ble_eq_true rfl) ⟨rfl, rfl, Or.inr c10⟩ dX4_clockOf_13 dX4_clockOf_16 dX4_clockOf_17 dX4_clockOf_19 dX4_clockOf_22
set_option maxRecDepth 100000 in
set_option maxHeartbeats 4000000 in
theorem c_X4_trackNumbered (l : Launch) (hlf : l.stackTraces = false) (S : HS) (ad : AD) (q : AS) (i : Int32) (hA : XA S ad (cn q 1)) (hv32 : hI S 32 (ad 0 0) = nI (cn q 1)) : cX l yX4_trackNumbered cX4_trackNumbered 2 (Option.some (Jvm.ClassFile.FieldType.object "TrackFusion$Track")) 6 [.ref (ad 0 0), .int i] S (pQ fun r u => ∃ j, j < cn q 1 ∧ i = nI j ∧ some (ad 6 j) = r ∧ S = u) (fun E u => E = eIO ∧ S = u ∧ (i < 0 ∨ nI (cn q 1) ≤ i)) 1 6 := by
  refine cX_intro (by decide +kernel) cd_X4_trackNumbered (Nat.le_of_ble_eq_true rfl) ?_
  intro pP eE sS mM aA bB tT cC G A C hRT hnt
  refine V.lvs (lv2 := [(0, .ref (ad 0 0)), (1, .int i)]) rfl ?_
  have hn6 := hA.hn
  refine v_iload_n C 1 rfl rfl dX4_trackNumbered_0 ?_
  refine v_if_lt C 21 (by decide) dX4_trackNumbered_1 (fun c1 => ?_) (fun c1 => ?_)
  · exact v_throwSW C hlf tl_79_333 hnt (Nat.le_of_ble_eq_true rfl) (Nat.le_of_ble_eq_true rfl) (Nat.le_of_ble_eq_true rfl) (Nat.le_of_ble_eq_true rfl) (Nat.le_of_ble_eq_true rfl) (Nat.le_of_ble_eq_true rfl) (Nat.le_of_ble_eq_true rfl) ⟨rfl, rfl, Or.inl c1⟩ dX4_trackNumbered_21 dX4_trackNumbered_24 dX4_trackNumbered_25 dX4_trackNumbered_28 dX4_trackNumbered_31
  · refine v_iload_n C 1 rfl rfl dX4_trackNumbered_4 ?_
    refine v_aload_n C 0 rfl rfl dX4_trackNumbered_5 ?_
    refine v_getI C (nI (cn q 1)) fl_RX4_181 hA.k0 hv32 dX4_trackNumbered_6 ?_
    refine v_icmp_ge C 21 (by decide) dX4_trackNumbered_9 (fun c9 => ?_) (fun c9 => ?_)
    · exact v_throwSW C hlf tl_79_333 hnt (Nat.le_of_ble_eq_true rfl) (Nat.le_of_ble_eq_true rfl) (Nat.le_of_ble_eq_true rfl) (Nat.le_of_ble_eq_true rfl) (Nat.le_of_ble_eq_true rfl) (Nat.le_of_ble_eq_true rfl) (Nat.le_of_ble_eq_true rfl) ⟨rfl, rfl, Or.inr c9⟩ dX4_trackNumbered_21 dX4_trackNumbered_24 dX4_trackNumbered_25 dX4_trackNumbered_28 dX4_trackNumbered_31
    · obtain ⟨j, hj, rfl⟩ := ixI2 (n := cn q 1) c1 c9 (by omega)
      refine v_iload_n C 1 rfl rfl dX4_trackNumbered_12 ?_
      refine v_aload_n C 0 rfl rfl dX4_trackNumbered_13 ?_
      refine v_getR C (ad 5 0) fl_RX4_23 hA.k0 hA.r31 dX4_trackNumbered_14 ?_
      refine v_alen C 60 (kle hA.k5 (by decide)) (kge hA.k5 (by decide)) (by rw [hA.n5]; rfl) dX4_trackNumbered_17 ?_
      refine v_icmp_lt C 32 (by decide) dX4_trackNumbered_18 (fun c18 => ?_) (fun q => (q (by exact nI_lt (a := j) (b := 60) (by omega) (by decide))).elim)
      refine v_aload_n C 0 rfl rfl dX4_trackNumbered_32 ?_
      refine v_getR C (ad 5 0) fl_RX4_23 hA.k0 hA.r31 dX4_trackNumbered_33 ?_
      refine v_iload_n C 1 rfl rfl dX4_trackNumbered_36 ?_
      refine v_aald C (some (ad 6 j)) (klt hA.k5 (by decide)) (kgt hA.k5 (by decide)) (by rw [hA.n5]; exact vp_in_nI (by omega) (by decide)) ((congrArg _ (nI_clamp (by omega))).trans (hA.a5 j hj)) dX4_trackNumbered_37 ?_
      exact v_xaret (r := (some (ad 6 j))) C (Or.inl ⟨_, rfl⟩) hRT (Nat.le_of_ble_eq_true rfl) (Nat.le_of_ble_eq_true rfl) dX4_trackNumbered_38 ⟨_, rfl, j, hj, rfl, rfl, rfl⟩
set_option maxRecDepth 100000 in
set_option maxHeartbeats 4000000 in
theorem c_X4_reportNumbered (l : Launch) (hlf : l.stackTraces = false) (S : HS) (ad : AD) (q : AS) (i : Int32) (hA : XA S ad (cn q 1)) (hv30 : hI S 30 (ad 0 0) = nI (cn q 0)) (h4 : cn q 0 ≤ 4) : cX l yX4_reportNumbered cX4_reportNumbered 2 (Option.some (Jvm.ClassFile.FieldType.object "TrackFusion$Report")) 6 [.ref (ad 0 0), .int i] S (pQ fun r u => ∃ j, j < cn q 0 ∧ i = nI j ∧ some (ad 4 j) = r ∧ S = u) (fun E u => E = eIO ∧ S = u ∧ (i < 0 ∨ nI (cn q 0) ≤ i)) 1 6 := by
  refine cX_intro (by decide +kernel) cd_X4_reportNumbered (Nat.le_of_ble_eq_true rfl) ?_
  intro pP eE sS mM aA bB tT cC G A C hRT hnt
  refine V.lvs (lv2 := [(0, .ref (ad 0 0)), (1, .int i)]) rfl ?_
  refine v_iload_n C 1 rfl rfl dX4_reportNumbered_0 ?_
  refine v_if_lt C 21 (by decide) dX4_reportNumbered_1 (fun c1 => ?_) (fun c1 => ?_)
  · exact v_throwS C hlf tl_79_161 hnt (Nat.le_of_ble_eq_true rfl) (Nat.le_of_ble_eq_true rfl) (Nat.le_of_ble_eq_true rfl) (Nat.le_of_ble_eq_true rfl) (Nat.le_of_ble_eq_true rfl) (Nat.le_of_ble_eq_true rfl) (Nat.le_of_ble_eq_true rfl) ⟨rfl, rfl, Or.inl c1⟩ dX4_reportNumbered_21 dX4_reportNumbered_24 dX4_reportNumbered_25 dX4_reportNumbered_27 dX4_reportNumbered_30
  · refine v_iload_n C 1 rfl rfl dX4_reportNumbered_4 ?_
    refine v_aload_n C 0 rfl rfl dX4_reportNumbered_5 ?_
    refine v_getI C (nI (cn q 0)) fl_RX4_93 hA.k0 hv30 dX4_reportNumbered_6 ?_
    refine v_icmp_ge C 21 (by decide) dX4_reportNumbered_9 (fun c9 => ?_) (fun c9 => ?_)
    · exact v_throwS C hlf tl_79_161 hnt (Nat.le_of_ble_eq_true rfl) (Nat.le_of_ble_eq_true rfl) (Nat.le_of_ble_eq_true rfl) (Nat.le_of_ble_eq_true rfl) (Nat.le_of_ble_eq_true rfl) (Nat.le_of_ble_eq_true rfl) (Nat.le_of_ble_eq_true rfl) ⟨rfl, rfl, Or.inr c9⟩ dX4_reportNumbered_21 dX4_reportNumbered_24 dX4_reportNumbered_25 dX4_reportNumbered_27 dX4_reportNumbered_30
    · obtain ⟨j, hj, rfl⟩ := ixI2 (n := cn q 0) c1 c9 (by omega)
      refine v_iload_n C 1 rfl rfl dX4_reportNumbered_12 ?_
      refine v_aload_n C 0 rfl rfl dX4_reportNumbered_13 ?_
      refine v_getR C (ad 3 0) fl_RX4_17 hA.k0 hA.r29 dX4_reportNumbered_14 ?_
      refine v_alen C 4 (kle hA.k3 (by decide)) (kge hA.k3 (by decide)) (by rw [hA.n3]; rfl) dX4_reportNumbered_17 ?_
      refine v_icmp_lt C 31 (by decide) dX4_reportNumbered_18 (fun c18 => ?_) (fun q => (q (by exact nI_lt (a := j) (b := 4) (by omega) (by decide))).elim)
      refine v_aload_n C 0 rfl rfl dX4_reportNumbered_31 ?_
      refine v_getR C (ad 3 0) fl_RX4_17 hA.k0 hA.r29 dX4_reportNumbered_32 ?_
      refine v_iload_n C 1 rfl rfl dX4_reportNumbered_35 ?_
      refine v_aald C (some (ad 4 j)) (klt hA.k3 (by decide)) (kgt hA.k3 (by decide)) (by rw [hA.n3]; exact vp_in_nI (by omega) (by decide)) ((congrArg _ (nI_clamp (by omega))).trans (hA.a3 j (by omega))) dX4_reportNumbered_36 ?_
      exact v_xaret (r := (some (ad 4 j))) C (Or.inl ⟨_, rfl⟩) hRT (Nat.le_of_ble_eq_true rfl) (Nat.le_of_ble_eq_true rfl) dX4_reportNumbered_37 ⟨_, rfl, j, hj, rfl, rfl, rfl⟩
set_option maxRecDepth 100000 in
set_option maxHeartbeats 4000000 in
theorem lp_X4_countLive {l : Launch} {pP : Program} {eE : Env} {sS : State} {mM : MethodId} {aA : Array Value} {bB : List Frame} {tT : Method} {cC : Code} {G : GT} {A : Nat → Prop} {Q : State → Prop}  (S : HS) (ad : AD) (q : AS) (hA : XA S ad (cn q 1)) (hV : XV S ad q)  (C : Cx pP l eE (rmD 2 0 0) sS mM aA bB tT cC cX4_countLive 3 RX4 G A) (kk : V pP l eE (rmD 2 0 0) sS mM aA bB tT cC 3 G A S 0 0 Q 42 [(0, .ref (ad 0 0)), (1, .int (nI (cntP (liveP q) (cn q 1)))), (2, .int (nI (cn q 1)))] []) : ∀ (N : Nat) (i : Nat), (hN9 : cn q 1 + 1 ≤ i + N) → (hi : i ≤ cn q 1) → V pP l eE (rmD 2 0 0) sS mM aA bB tT cC 3 G A S 0 0 Q 4 [(0, .ref (ad 0 0)), (1, .int (nI (cntP (liveP q) i))), (2, .int (nI i))] [] := by
  intro N
  induction N with
  | zero =>
    intro i hN9 hi
    exact absurd hN9 (by omega)
  | succ N ih =>
    intro i hN9 hi
    have hn6 := hA.hn
    refine v_iload_n C 2 rfl rfl dX4_countLive_4 ?_
    refine v_aload_n C 0 rfl rfl dX4_countLive_5 ?_
    refine v_getI C (nI (cn q 1)) fl_RX4_181 hA.k0 hV.v32 dX4_countLive_6 ?_
    refine v_icmp_ge C 42 (by decide) dX4_countLive_9 (fun c9 => ?_) (fun c9 => ?_)
    · obtain rfl : i = cn q 1 := by have := nge c9 (by omega); omega
      exact V.sub [0, 1, 2] rfl kk
    · have hlt := nlt c9 (by omega)
      refine v_iload_n C 2 rfl rfl dX4_countLive_12 ?_
      refine v_aload_n C 0 rfl rfl dX4_countLive_13 ?_
      refine v_getR C (ad 5 0) fl_RX4_23 hA.k0 hA.r31 dX4_countLive_14 ?_
      refine v_alen C 60 (kle hA.k5 (by decide)) (kge hA.k5 (by decide)) (by rw [hA.n5]; rfl) dX4_countLive_17 ?_
      refine v_icmp_ge C 42 (by decide) dX4_countLive_18 (fun q => (nI_ge (a := i) (b := 60) (by omega) (by decide) q).elim) (fun c18 => ?_)
      refine v_aload_n C 0 rfl rfl dX4_countLive_21 ?_
      refine v_getR C (ad 5 0) fl_RX4_23 hA.k0 hA.r31 dX4_countLive_22 ?_
      refine v_iload_n C 2 rfl rfl dX4_countLive_25 ?_
      refine v_aald C (some (ad 6 i)) (klt hA.k5 (by decide)) (kgt hA.k5 (by decide)) (by rw [hA.n5]; exact vp_in_nI (by omega) (by decide)) ((congrArg _ (nI_clamp (by omega))).trans (hA.a5 i hlt)) dX4_countLive_26 ?_
      refine v_getI C (bI (zz q 3 i 7 = 0)) fl_RX4_184 (hA.k6 i hlt) (hV.t24 i hlt) dX4_countLive_27 ?_
      refine v_if_eq C 36 (by decide) dX4_countLive_30 (fun c30 => ?_) (fun c30 => ?_)
      · refine v_iinc C (nI (i + 1)) 2 [(2, .int (nI (i + 1))), (0, .ref (ad 0 0)), (1, .int (nI (cntP (liveP q) i)))] rfl (by rw [← nI_1]; rfl) (by decide) rfl dX4_countLive_36 ?_
        refine v_goto C 4 (by decide) dX4_countLive_39 ?_
        rw [← cntP_f (p := liveP q) (n := i) (decide_eq_false (bI_e0 c30))]
        exact V.sub [1, 2, 0] rfl (ih (i + 1) (by omega) (by omega))
      · refine v_iinc C (nI (cntP (liveP q) (i + 1))) 1 [(1, .int (nI (cntP (liveP q) (i + 1)))), (0, .ref (ad 0 0)), (2, .int (nI i))] rfl (by rw [cntP_t (decide_eq_true (bI_n0 c30)), ← nI_1]; rfl) (by decide) rfl dX4_countLive_33 ?_
        refine v_iinc C (nI (i + 1)) 2 [(2, .int (nI (i + 1))), (1, .int (nI (cntP (liveP q) (i + 1)))), (0, .ref (ad 0 0))] rfl (by rw [← nI_1]; rfl) (by decide) rfl dX4_countLive_36 ?_
        refine v_goto C 4 (by decide) dX4_countLive_39 ?_
        exact V.sub [2, 1, 0] rfl (ih (i + 1) (by omega) (by omega))
set_option maxRecDepth 100000 in
set_option maxHeartbeats 4000000 in
theorem c_X4_countLive (l : Launch) (S : HS) (ad : AD) (q : AS) (hA : XA S ad (cn q 1)) (hV : XV S ad q)  : cM l yX4_countLive cX4_countLive 3 (Option.some Jvm.ClassFile.FieldType.int) 2 [.ref (ad 0 0)] S (pI fun r u => nI (cntP (liveP q) (cn q 1)) = r ∧ S = u) 0 0 := by
  refine cM_intro (by decide +kernel) cd_X4_countLive (Nat.le_of_ble_eq_true rfl) ?_
  intro pP eE sS mM aA bB tT cC G A C hRT hin
  refine V.lvs (lv2 := [(0, .ref (ad 0 0))]) rfl ?_
  refine v_iconst C 0 (by decide) dX4_countLive_0 ?_
  refine v_istore_n C [(1, .int 0), (0, .ref (ad 0 0))] (by decide) rfl rfl dX4_countLive_1 ?_
  refine v_iconst C 0 (by decide) dX4_countLive_2 ?_
  refine v_istore_n C [(2, .int 0), (1, .int 0), (0, .ref (ad 0 0))] (by decide) rfl rfl dX4_countLive_3 ?_
  refine V.sub [2, 1, 0] rfl (lp_X4_countLive S ad q hA hV C ?_ (cn q 1 + 1) 0 (by omega) (by omega))
  refine v_iload_n C 1 rfl rfl dX4_countLive_42 ?_
  exact v_iret C hRT (Nat.le_of_ble_eq_true rfl) (Nat.le_of_ble_eq_true rfl) dX4_countLive_43 ⟨_, rfl, rfl, rfl⟩
