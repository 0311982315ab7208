set_option maxRecDepth 100000 in
set_option maxHeartbeats 4000000 in
theorem lp_X5_countI {l : Launch} {pP : Program} {eE : Env} {sS : State} {mM : MethodId} {aA : Array Value} {bB : List Frame} {tT : Method} {cC : Code} {G : GT} {A : Nat → Prop} {Q : State → Prop}  (S : HS) (am : AM) (q : AS) (hB : BI q) (hA : NA S am (cn q 1)) (hV : NV S am q) (x : Int32) (t : Nat) (ht : t < cn q 1)  (C : Cx pP l eE (rmD 4 0 0) sS mM aA bB tT cC cX5_count 5 RX5 G A) (kk : V pP l eE (rmD 4 0 0) sS mM aA bB tT cC 5 G A S 0 0 Q 53 [(0, .ref (am 0)), (1, .int x), (2, .int (nI (sgc q x t + cntP (sgP q t x) (cn q (100 + t))))), (3, .int (nI t)), (4, .int (nI (cn q (100 + t))))] []) : ∀ (N : Nat) (k : Nat), (hN9 : cn q (100 + t) + 1 ≤ k + N) → (hi : k ≤ cn q (100 + t)) → V pP l eE (rmD 4 0 0) sS mM aA bB tT cC 5 G A S 0 0 Q 15 [(0, .ref (am 0)), (1, .int x), (2, .int (nI (sgc q x t + cntP (sgP q t x) k))), (3, .int (nI t)), (4, .int (nI k))] [] := by
  intro N
  induction N with
  | zero =>
    intro k hN9 hi
    exact absurd hN9 (by omega)
  | succ N ih =>
    intro k hN9 hi
    have h60 := hA.hn
    have h5 := (hB.bh t ht).1
    have hl9 := hV.hl t ht
    refine v_iload C 4 rfl dX5_count_15 ?_
    refine v_aload_n C 0 rfl rfl dX5_count_17 ?_
    refine v_getR C (am 5) fl_RX5_25 hA.k0 hA.r46 dX5_count_18 ?_
    refine v_iload_n C 3 rfl rfl dX5_count_21 ?_
    refine v_iald C (nI (cn q (100 + t))) hA.k5 (vpi hA.n5 (vp_in_nI (by omega) (by decide))) ((congrArg _ (nI_clamp (by omega))).trans (hV.hm t ht)) dX5_count_22 ?_
    refine v_icmp_ge C 53 (by decide) dX5_count_23 (fun c23 => ?_) (fun c23 => ?_)
    · obtain rfl : k = cn q (100 + t) := by have := nge c23 (by omega); omega
      exact V.sub [0, 1, 2, 3, 4] rfl kk
    · have hlt : k < cn q (100 + t) := nlt c23 (by omega)
      refine v_iload_n C 2 rfl rfl dX5_count_26 ?_
      refine v_aload_n C 0 rfl rfl dX5_count_27 ?_
      refine v_getR C (am 4) fl_RX5_21 hA.k0 hA.r45 dX5_count_28 ?_
      refine v_iload_n C 3 rfl rfl dX5_count_31 ?_
      refine v_aald C (some (am (20 + t))) (klt hA.k4 (by decide)) (kgt hA.k4 (by decide)) (vpi hA.n4 (vp_in_nI (by omega) (by decide))) ((congrArg _ (nI_clamp (by omega))).trans (hA.a4 t ht)) dX5_count_32 ?_
      refine v_iload C 4 rfl dX5_count_33 ?_
      refine v_cald C (iO (zz q 4 t k)) (hA.kh t ht) (vp_in_nI (by omega) (by omega)) ((congrArg _ (nI_clamp (by omega))).trans (hV.hr t ht k hlt)) dX5_count_35 ?_
      refine v_iload_n C 1 rfl rfl dX5_count_36 ?_
      refine v_icmp_ne C 44 (by decide) dX5_count_37 (fun c37 => ?_) (fun c37 => ?_)
      · refine v_iconst C 0 (by decide) dX5_count_44 ?_
        refine v_iadd C dX5_count_45 ?_
        rw [show ((nI (sgc q x t + cntP (sgP q t x) k)) + 0) = (nI (sgc q x t + cntP (sgP q t x) k)) from nI_add' _ 0]
        refine v_istore_n C [(2, .int (nI (sgc q x t + cntP (sgP q t x) k))), (0, .ref (am 0)), (1, .int x), (3, .int (nI t)), (4, .int (nI k))] (by decide) rfl rfl dX5_count_46 ?_
        refine v_iinc C (nI (k + 1)) 4 [(4, .int (nI (k + 1))), (2, .int (nI (sgc q x t + cntP (sgP q t x) k))), (0, .ref (am 0)), (1, .int x), (3, .int (nI t))] rfl (by rw [← nI_1]; rfl) (by decide) rfl dX5_count_47 ?_
        refine v_goto C 15 (by decide) dX5_count_50 ?_
        have e1 := cntP_f (p := sgP q t x) (n := k) (decide_eq_false c37)
        refine V.sub [2, 3, 1, 4, 0] rfl ?_
        have key := ih (k + 1) (by omega) hlt
        rw [e1] at key
        exact key
      · refine v_iconst C 1 (by decide) dX5_count_40 ?_
        refine v_goto C 45 (by decide) dX5_count_41 ?_
        refine v_iadd C dX5_count_45 ?_
        rw [show ((nI (sgc q x t + cntP (sgP q t x) k)) + 1) = nI (sgc q x t + cntP (sgP q t x) k + 1) from nI_add' _ 1]
        refine v_istore_n C [(2, .int (nI (sgc q x t + cntP (sgP q t x) k + 1))), (0, .ref (am 0)), (1, .int x), (3, .int (nI t)), (4, .int (nI k))] (by decide) rfl rfl dX5_count_46 ?_
        refine v_iinc C (nI (k + 1)) 4 [(4, .int (nI (k + 1))), (2, .int (nI (sgc q x t + cntP (sgP q t x) k + 1))), (0, .ref (am 0)), (1, .int x), (3, .int (nI t))] rfl (by rw [← nI_1]; rfl) (by decide) rfl dX5_count_47 ?_
        refine v_goto C 15 (by decide) dX5_count_50 ?_
        have e1 := cntP_t (p := sgP q t x) (n := k) (decide_eq_true c37)
        refine V.sub [2, 3, 1, 4, 0] rfl ?_
        have key := ih (k + 1) (by omega) hlt
        rw [e1, ← Nat.add_assoc] at key
        exact key
set_option maxRecDepth 100000 in
set_option maxHeartbeats 4000000 in
theorem lp_X5_count {l : Launch} {pP : Program} {eE : Env} {sS : State} {mM : MethodId} {aA : Array Value} {bB : List Frame} {tT : Method} {cC : Code} {G : GT} {A : Nat → Prop} {Q : State → Prop}  (S : HS) (am : AM) (q : AS) (hB : BI q) (hA : NA S am (cn q 1)) (hV : NV S am q) (x : Int32)  (C : Cx pP l eE (rmD 4 0 0) sS mM aA bB tT cC cX5_count 5 RX5 G A) (kk : V pP l eE (rmD 4 0 0) sS mM aA bB tT cC 5 G A S 0 0 Q 59 [(0, .ref (am 0)), (1, .int x), (2, .int (nI (sgc q x (cn q 1)))), (3, .int (nI (cn q 1)))] []) : ∀ (N : Nat) (t : Nat), (hN9 : cn q 1 + 1 ≤ t + N) → (hi : t ≤ cn q 1) → V pP l eE (rmD 4 0 0) sS mM aA bB tT cC 5 G A S 0 0 Q 4 [(0, .ref (am 0)), (1, .int x), (2, .int (nI (sgc q x t))), (3, .int (nI t))] [] := by
  intro N
  induction N with
  | zero =>
    intro t hN9 hi
    exact absurd hN9 (by omega)
  | succ N ih =>
    intro t hN9 hi
    have h60 := hA.hn
    refine v_iload_n C 3 rfl rfl dX5_count_4 ?_
    refine v_aload_n C 0 rfl rfl dX5_count_5 ?_
    refine v_getI C (nI (cn q 1)) fl_RX5_71 hA.k0 hV.v44 dX5_count_6 ?_
    refine v_icmp_ge C 59 (by decide) dX5_count_9 (fun c9 => ?_) (fun c9 => ?_)
    · obtain rfl : t = cn q 1 := by have := nge c9 (by omega); omega
      exact V.sub [0, 1, 2, 3] rfl kk
    · have ht : t < cn q 1 := nlt c9 (by omega)
      refine v_iconst C 0 (by decide) dX5_count_12 ?_
      refine v_istore C [(4, .int 0), (0, .ref (am 0)), (1, .int x), (2, .int (nI (sgc q x t))), (3, .int (nI t))] (by decide) rfl dX5_count_13 ?_
      refine V.sub [1, 2, 3, 4, 0] rfl (lp_X5_countI S am q hB hA hV x t ht C ?_ (cn q (100 + t) + 1) 0 (by omega) (by omega))
      refine v_iinc C (nI (t + 1)) 3 [(3, .int (nI (t + 1))), (0, .ref (am 0)), (1, .int x), (2, .int (nI (sgc q x t + cntP (sgP q t x) (cn q (100 + t))))), (4, .int (nI (cn q (100 + t))))] rfl (by rw [← nI_1]; rfl) (by decide) rfl dX5_count_53 ?_
      refine v_goto C 4 (by decide) dX5_count_56 ?_
      exact V.sub [1, 2, 3, 0] rfl (ih (t + 1) (by omega) ht)
set_option maxRecDepth 100000 in
set_option maxHeartbeats 4000000 in
theorem c_X5_count (l : Launch) (S : HS) (am : AM) (q : AS) (hB : BI q) (hA : NA S am (cn q 1)) (hV : NV S am q) (x : Int32)  : cM l yX5_count cX5_count 5 (Option.some Jvm.ClassFile.FieldType.int) 4 [.ref (am 0), .int x] S (pI fun r u => nI (sgc q x (cn q 1)) = r ∧ S = u) 0 0 := by
  refine cM_intro (by decide +kernel) cd_X5_count (Nat.le_of_ble_eq_true rfl) ?_
  intro pP eE sS mM aA bB tT cC G A C hRT hin
  refine V.lvs (lv2 := [(0, .ref (am 0)), (1, .int x)]) rfl ?_
  refine v_iconst C 0 (by decide) dX5_count_0 ?_
  refine v_istore_n C [(2, .int 0), (0, .ref (am 0)), (1, .int x)] (by decide) rfl rfl dX5_count_1 ?_
  refine v_iconst C 0 (by decide) dX5_count_2 ?_
  refine v_istore_n C [(3, .int 0), (2, .int 0), (0, .ref (am 0)), (1, .int x)] (by decide) rfl rfl dX5_count_3 ?_
  refine V.sub [2, 3, 1, 0] rfl (lp_X5_count S am q hB hA hV x C ?_ (cn q 1 + 1) 0 (by omega) (by omega))
  refine v_iload_n C 2 rfl rfl dX5_count_59 ?_
  exact v_iret C hRT (Nat.le_of_ble_eq_true rfl) (Nat.le_of_ble_eq_true rfl) dX5_count_60 ⟨_, rfl, rfl, rfl⟩
