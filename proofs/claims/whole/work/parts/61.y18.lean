theorem from_M {m : Nat} (h : m ≤ 500) : (if 0 < nI m - 8 then nI m - 8 else 0) = nI (m - 8) := by
  rw [nI_iO, nI_iO, show (8 : Int32) = iO 8 from rfl, iO_sub, show (0 : Int32) = iO 0 from rfl]
  have e := iO_lt (a := 0) (b := (m : Int) - 8) (by decide) (by decide) (by omega) (by omega)
  by_cases c : 0 < (m : Int) - 8
  · rw [if_pos (e.mpr c)]
    congr 1
    omega
  · rw [if_neg (fun z => c (e.mp z))]
    congr 1
    omega
theorem sgF_0 {q : AS} {t a : Nat} {x : Int32} : cntP (sgF q t a x) a = 0 := cntP_0 (fun j hj => by
  unfold sgF
  rw [decide_eq_false (by omega), Bool.false_and])
theorem sgF_k {q : AS} {t a k : Nat} {x : Int32} (h : a ≤ k) : sgF q t a x k = decide (iO (zz q 4 t k) = x) := by
  unfold sgF
  rw [decide_eq_true h, Bool.true_and]
set_option maxRecDepth 100000 in
set_option maxHeartbeats 4000000 in
theorem lp_X5_quality {l : Launch} {pP : Program} {eE : Env} {sS : State} {mM : MethodId} {aA : Array Value} {bB : List Frame} {tT : Method} {cC : Code} {G : GT} {A : Nat → Prop} {Q : State → Prop}  (S : HS) (am : AM) (q : AS) (hB : BI q) (hA : NA S am (cn q 1)) (hV : NV S am q) (j : Nat) (hj : j < cn q 1)  (C : Cx pP l eE (rmD 8 0 0) sS mM aA bB tT cC cX5_quality 4 RX5 G A) (kk : V pP l eE (rmD 8 0 0) sS mM aA bB tT cC 4 G A S 0 0 Q 76 [(0, .ref (am 0)), (1, .int (nI j)), (2, .int (nI (cntP (sgF q j (cn q (100 + j) - 8) 110) (cn q (100 + j)) + cntP (sgF q j (cn q (100 + j) - 8) 104) (cn q (100 + j))))), (3, .int (nI (cn q (100 + j))))] []) : ∀ (N : Nat) (k : Nat), (hN9 : cn q (100 + j) + 1 ≤ k + N) → (hka : (cn q (100 + j) - 8) ≤ k) → (hi : k ≤ cn q (100 + j)) → V pP l eE (rmD 8 0 0) sS mM aA bB tT cC 4 G A S 0 0 Q 26 [(0, .ref (am 0)), (1, .int (nI j)), (2, .int (nI (cntP (sgF q j (cn q (100 + j) - 8) 110) k + cntP (sgF q j (cn q (100 + j) - 8) 104) k))), (3, .int (nI k))] [] := by
  intro N
  induction N with
  | zero =>
    intro k hN9 hka hi
    exact absurd hN9 (by omega)
  | succ N ih =>
    intro k hN9 hka hi
    have h60 := hA.hn
    have h5 := (hB.bh j hj).1
    have hl9 := hV.hl j hj
    refine v_iload_n C 3 rfl rfl dX5_quality_26 ?_
    refine v_aload_n C 0 rfl rfl dX5_quality_27 ?_
    refine v_getR C (am 5) fl_RX5_25 hA.k0 hA.r46 dX5_quality_28 ?_
    refine v_iload_n C 1 rfl rfl dX5_quality_31 ?_
    refine v_iald C (nI (cn q (100 + j))) hA.k5 (vpi hA.n5 (vp_in_nI (by have := hA.hn; omega) (by decide))) ((congrArg _ (nI_clamp (by have := hA.hn; omega))).trans (hV.hm j hj)) dX5_quality_32 ?_
    refine v_icmp_ge C 76 (by decide) dX5_quality_33 (fun c33 => ?_) (fun c33 => ?_)
    · obtain rfl : k = cn q (100 + j) := by have := nge c33 (by omega); omega
      exact V.sub [0, 1, 2, 3] rfl kk
    · have hlt : k < cn q (100 + j) := nlt c33 (by omega)
      refine v_iload_n C 2 rfl rfl dX5_quality_36 ?_
      refine v_aload_n C 0 rfl rfl dX5_quality_37 ?_
      refine v_getR C (am 4) fl_RX5_21 hA.k0 hA.r45 dX5_quality_38 ?_
      refine v_iload_n C 1 rfl rfl dX5_quality_41 ?_
      refine v_aald C (some (am (20 + j))) (klt hA.k4 (by decide)) (kgt hA.k4 (by decide)) (vpi hA.n4 (vp_in_nI (by have := hA.hn; omega) (by decide))) ((congrArg _ (nI_clamp (by have := hA.hn; omega))).trans (hA.a4 j hj)) dX5_quality_42 ?_
      refine v_iload_n C 3 rfl rfl dX5_quality_43 ?_
      refine v_cald C (iO (zz q 4 j k)) (hA.kh j hj) (vp_in_nI (by omega) (by omega)) ((congrArg _ (nI_clamp (by omega))).trans (hV.hr j hj k hlt)) dX5_quality_44 ?_
      refine v_bipush C 104 (by decide) dX5_quality_45 ?_
      refine v_icmp_eq C 63 (by decide) dX5_quality_47 (fun c47 => ?_) (fun c47 => ?_)
      · refine v_iconst C 1 (by decide) dX5_quality_63 ?_
        refine v_goto C 68 (by decide) dX5_quality_64 ?_
        refine v_iadd C dX5_quality_68 ?_
        rw [show ((nI (cntP (sgF q j (cn q (100 + j) - 8) 110) k + cntP (sgF q j (cn q (100 + j) - 8) 104) k)) + 1) = nI (cntP (sgF q j (cn q (100 + j) - 8) 110) k + cntP (sgF q j (cn q (100 + j) - 8) 104) k + 1) from nI_add' _ 1]
        refine v_istore_n C [(2, .int (nI (cntP (sgF q j (cn q (100 + j) - 8) 110) k + cntP (sgF q j (cn q (100 + j) - 8) 104) k + 1))), (0, .ref (am 0)), (1, .int (nI j)), (3, .int (nI k))] (by decide) rfl rfl dX5_quality_69 ?_
        refine v_iinc C (nI (k + 1)) 3 [(3, .int (nI (k + 1))), (2, .int (nI (cntP (sgF q j (cn q (100 + j) - 8) 110) k + cntP (sgF q j (cn q (100 + j) - 8) 104) k + 1))), (0, .ref (am 0)), (1, .int (nI j))] rfl (by rw [← nI_1]; rfl) (by decide) rfl dX5_quality_70 ?_
        refine v_goto C 26 (by decide) dX5_quality_73 ?_
        have e1 := cntP_f (p := sgF q j (cn q (100 + j) - 8) 110) (n := k) ((sgF_k hka).trans (decide_eq_false (by rw [c47]; decide)))
        have e2 := cntP_t (p := sgF q j (cn q (100 + j) - 8) 104) (n := k) ((sgF_k hka).trans (decide_eq_true c47))
        refine V.sub [2, 3, 1, 0] rfl ?_
        have key := ih (k + 1) (by omega) (by omega) hlt
        rw [e1, e2, ← Nat.add_assoc] at key
        exact key
      · refine v_aload_n C 0 rfl rfl dX5_quality_50 ?_
        refine v_getR C (am 4) fl_RX5_21 hA.k0 hA.r45 dX5_quality_51 ?_
        refine v_iload_n C 1 rfl rfl dX5_quality_54 ?_
        refine v_aald C (some (am (20 + j))) (klt hA.k4 (by decide)) (kgt hA.k4 (by decide)) (vpi hA.n4 (vp_in_nI (by have := hA.hn; omega) (by decide))) ((congrArg _ (nI_clamp (by have := hA.hn; omega))).trans (hA.a4 j hj)) dX5_quality_55 ?_
        refine v_iload_n C 3 rfl rfl dX5_quality_56 ?_
        refine v_cald C (iO (zz q 4 j k)) (hA.kh j hj) (vp_in_nI (by omega) (by omega)) ((congrArg _ (nI_clamp (by omega))).trans (hV.hr j hj k hlt)) dX5_quality_57 ?_
        refine v_bipush C 110 (by decide) dX5_quality_58 ?_
        refine v_icmp_ne C 67 (by decide) dX5_quality_60 (fun c60 => ?_) (fun c60 => ?_)
        · refine v_iconst C 0 (by decide) dX5_quality_67 ?_
          refine v_iadd C dX5_quality_68 ?_
          rw [show ((nI (cntP (sgF q j (cn q (100 + j) - 8) 110) k + cntP (sgF q j (cn q (100 + j) - 8) 104) k)) + 0) = nI (cntP (sgF q j (cn q (100 + j) - 8) 110) k + cntP (sgF q j (cn q (100 + j) - 8) 104) k) from nI_add' _ 0]
          refine v_istore_n C [(2, .int (nI (cntP (sgF q j (cn q (100 + j) - 8) 110) k + cntP (sgF q j (cn q (100 + j) - 8) 104) k))), (0, .ref (am 0)), (1, .int (nI j)), (3, .int (nI k))] (by decide) rfl rfl dX5_quality_69 ?_
          refine v_iinc C (nI (k + 1)) 3 [(3, .int (nI (k + 1))), (2, .int (nI (cntP (sgF q j (cn q (100 + j) - 8) 110) k + cntP (sgF q j (cn q (100 + j) - 8) 104) k))), (0, .ref (am 0)), (1, .int (nI j))] rfl (by rw [← nI_1]; rfl) (by decide) rfl dX5_quality_70 ?_
          refine v_goto C 26 (by decide) dX5_quality_73 ?_
          have e1 := cntP_f (p := sgF q j (cn q (100 + j) - 8) 110) (n := k) ((sgF_k hka).trans (decide_eq_false c60))
          have e2 := cntP_f (p := sgF q j (cn q (100 + j) - 8) 104) (n := k) ((sgF_k hka).trans (decide_eq_false c47))
          refine V.sub [2, 3, 1, 0] rfl ?_
          have key := ih (k + 1) (by omega) (by omega) hlt
          rw [e1, e2] at key
          exact key
        · refine v_iconst C 1 (by decide) dX5_quality_63 ?_
          refine v_goto C 68 (by decide) dX5_quality_64 ?_
          refine v_iadd C dX5_quality_68 ?_
          rw [show ((nI (cntP (sgF q j (cn q (100 + j) - 8) 110) k + cntP (sgF q j (cn q (100 + j) - 8) 104) k)) + 1) = nI (cntP (sgF q j (cn q (100 + j) - 8) 110) k + cntP (sgF q j (cn q (100 + j) - 8) 104) k + 1) from nI_add' _ 1]
          refine v_istore_n C [(2, .int (nI (cntP (sgF q j (cn q (100 + j) - 8) 110) k + cntP (sgF q j (cn q (100 + j) - 8) 104) k + 1))), (0, .ref (am 0)), (1, .int (nI j)), (3, .int (nI k))] (by decide) rfl rfl dX5_quality_69 ?_
          refine v_iinc C (nI (k + 1)) 3 [(3, .int (nI (k + 1))), (2, .int (nI (cntP (sgF q j (cn q (100 + j) - 8) 110) k + cntP (sgF q j (cn q (100 + j) - 8) 104) k + 1))), (0, .ref (am 0)), (1, .int (nI j))] rfl (by rw [← nI_1]; rfl) (by decide) rfl dX5_quality_70 ?_
          refine v_goto C 26 (by decide) dX5_quality_73 ?_
          have e1 := cntP_t (p := sgF q j (cn q (100 + j) - 8) 110) (n := k) ((sgF_k hka).trans (decide_eq_true c60))
          have e2 := cntP_f (p := sgF q j (cn q (100 + j) - 8) 104) (n := k) ((sgF_k hka).trans (decide_eq_false c47))
          refine V.sub [2, 3, 1, 0] rfl ?_
          have key := ih (k + 1) (by omega) (by omega) hlt
          rw [e1, e2, Nat.add_right_comm] at key
          exact key
set_option maxRecDepth 100000 in
set_option maxHeartbeats 4000000 in
theorem c_X5_quality (l : Launch) (S : HS) (am : AM) (q : AS) (hB : BI q) (hA : NA S am (cn q 1)) (hV : NV S am q) (i : Int32) : cM l yX5_quality cX5_quality 4 (Option.some Jvm.ClassFile.FieldType.int) 8 [.ref (am 0), .int i] S (pI fun r u => (∃ j, j < cn q 1 ∧ i = nI j ∧ FrN S u am ∧ hI u 61 (am 0) = 0 ∧ nI (quA q j) = r) ∨ (¬ isTk q i ∧ FrN S u am ∧ hI u 61 (am 0) = 1)) 0 0 := by
  refine cM_intro (by decide +kernel) cd_X5_quality (Nat.le_of_ble_eq_true rfl) ?_
  intro pP eE sS mM aA bB tT cC G A C hRT hin
  refine V.lvs (lv2 := [(0, .ref (am 0)), (1, .int i)]) rfl ?_
  refine v_aload_n C 0 rfl rfl dX5_quality_0 ?_
  refine v_iload_n C 1 rfl rfl dX5_quality_1 ?_
  refine v_callVi C (st := []) [.int i] (c_X5_isThere l S am q hA hV i) ml_RX5_207 mi_yX5_isThere hA.k0 (by decide) (by decide +kernel) rfl (Nat.le_of_ble_eq_true rfl) (Nat.le_of_ble_eq_true rfl) (Nat.le_of_ble_eq_true rfl) (Nat.le_of_ble_eq_true rfl) (Nat.le_of_ble_eq_true rfl) dX5_quality_2 (fun r u h => ?_) _ rfl
  rcases h with ⟨hi, rfl, rfl⟩ | ⟨hi, rfl, rfl⟩
  · obtain ⟨j, hj, rfl⟩ := ixI2 hi.1 hi.2 (by have := hA.hn; omega)
    have hA1 : NA (sI S 61 (am 0) 0) am (cn q 1) := FrN.I.toA hA
    have hV1 : NV (sI S 61 (am 0) 0) am q := FrN.I.toV hA hV
    refine v_if_ne C 10 (by decide) dX5_quality_5 (fun _ => ?_) (fun q => absurd q (by decide))
    refine v_iconst C 0 (by decide) dX5_quality_10 ?_
    refine v_istore_n C [(2, .int 0), (0, .ref (am 0)), (1, .int (nI j))] (by decide) rfl rfl dX5_quality_11 ?_
    refine v_iconst C 0 (by decide) dX5_quality_12 ?_
    refine v_aload_n C 1 rfl rfl dX5_quality_13 ?_
    refine v_getR C (am 5) fl_RX5_25 hA.k0 hA.r46 dX5_quality_14 ?_
    refine v_iload_n C 2 rfl rfl dX5_quality_17 ?_
    refine v_iald C (nI (cn q (100 + j))) hA.k5 (vpi hA1.n5 (vp_in_nI (by have := hA.hn; omega) (by decide))) ((congrArg _ (nI_clamp (by have := hA.hn; omega))).trans (hV1.hm j hj)) dX5_quality_18 ?_
    refine v_bipush C 8 (by decide) dX5_quality_19 ?_
    refine v_isub C dX5_quality_21 ?_
    refine v_max C jm_RX5_173 (Nat.le_of_ble_eq_true rfl) (Nat.le_of_ble_eq_true rfl) (Nat.le_of_ble_eq_true rfl) (Nat.le_of_ble_eq_true rfl) (Nat.le_of_ble_eq_true rfl) dX5_quality_22 ?_
    rw [from_M (hB.bh j hj).1]
    refine v_istore_n C [(3, .int (nI (cn q (100 + j) - 8))), (2, .int 0), (0, .ref (am 0)), (1, .int (nI j))] (by decide) rfl rfl dX5_quality_25 ?_
    have e0 : (nI (cntP (sgF q j (cn q (100 + j) - 8) 110) (cn q (100 + j) - 8) + cntP (sgF q j (cn q (100 + j) - 8) 104) (cn q (100 + j) - 8))) = nI 0 := by rw [sgF_0, sgF_0]
    refine V.lvs (lv2 := [(3, .int (nI (cn q (100 + j) - 8))), (2, .int (nI (cntP (sgF q j (cn q (100 + j) - 8) 110) (cn q (100 + j) - 8) + cntP (sgF q j (cn q (100 + j) - 8) 104) (cn q (100 + j) - 8)))), (0, .ref (am 0)), (1, .int (nI j))]) (by rw [e0]; rfl) ?_
    refine V.sub [2, 3, 1, 0] rfl (lp_X5_quality (sI S 61 (am 0) 0) am q hB hA1 hV1 j hj C ?_ (cn q (100 + j) + 1) (cn q (100 + j) - 8) (by omega) (Nat.le_refl _) (by omega))
    refine v_iload_n C 2 rfl rfl dX5_quality_76 ?_
    exact v_iret C hRT (Nat.le_of_ble_eq_true rfl) (Nat.le_of_ble_eq_true rfl) dX5_quality_77 ⟨_, rfl, Or.inl ⟨j, hj, rfl, FrN.I, hI_sI1, rfl⟩⟩
  · have htt := trivial
    refine v_if_ne C 10 (by decide) dX5_quality_5 (fun q => absurd (by decide) q) (fun _ => ?_)
    refine v_iconst C (-1) (by decide) dX5_quality_8 ?_
    exact v_iret C hRT (Nat.le_of_ble_eq_true rfl) (Nat.le_of_ble_eq_true rfl) dX5_quality_9 ⟨_, rfl, Or.inr ⟨hi, FrN.I, hI_sI1⟩⟩
