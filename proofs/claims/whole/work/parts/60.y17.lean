section FCON
variable {p : Program} {l : Launch} {e : Env} {R : Room} {s : State} {m : MethodId} {args : Array Value} {below : List Frame} {meth : Method} {c : Code} {cc : ByteArray} {nL : Nat} {own : String} {G : GT} {A : Nat → Prop} {S : HS} {k n : Nat} {Q : State → Prop} {pc : Nat} {lv lv' : List (Nat × Value)} {st : List Value}
theorem v_fconst0 (C : Cx p l e R s m args below meth c cc nL own G A) (hd : decode cc pc = .ok (.fconst 0, 1)) (kk : V p l e R s m args below meth c nL G A (S) (k) (n) Q (pc + 1) (lv) (.float FP.fconst0 :: st)) : V p l e R s m args below meth c nL G A (S) (k) (n) Q (pc) (lv) (st) := fun H locs ls hW hS hv => lv_fconst0 C.1 C.2.1 hd (kk H locs ls hW hS hv)
theorem v_dconst0 (C : Cx p l e R s m args below meth c cc nL own G A) (hd : decode cc pc = .ok (.dconst 0, 1)) (kk : V p l e R s m args below meth c nL G A (S) (k) (n) Q (pc + 1) (lv) (.double FP.dconst0 :: st)) : V p l e R s m args below meth c nL G A (S) (k) (n) Q (pc) (lv) (st) := fun H locs ls hW hS hv => lv_dconst0 C.1 C.2.1 hd (kk H locs ls hW hS hv)
end FCON
set_option maxRecDepth 100000 in
set_option maxHeartbeats 4000000 in
theorem c_X5_takenShare (l : Launch) (S : HS) (am : AM) (q : AS) (hB : BI q) (hA : NA S am (cn q 1)) (hV : NV S am q)  : cM l yX5_takenShare cX5_takenShare 1 (Option.some Jvm.ClassFile.FieldType.float) 8 [.ref (am 0)] S (pF fun r u => (¬ nI (cn q 2) = 0 ∧ FrN S u am ∧ hI u 61 (am 0) = 0 ∧ (FP.fdiv (FP.i2f (nI (sgc q 104 (cn q 1)))) (FP.i2f (nI (cn q 2)))) = r) ∨ (nI (cn q 2) = 0 ∧ FrN S u am ∧ hI u 61 (am 0) = 1)) 0 0 := by
  refine cM_intro (by decide +kernel) cd_X5_takenShare (Nat.le_of_ble_eq_true rfl) ?_
  intro pP eE sS mM aA bB tT cC G A C hRT hin
  refine V.lvs (lv2 := [(0, .ref (am 0))]) rfl ?_
  refine v_aload_n C 0 rfl rfl dX5_takenShare_0 ?_
  refine v_aload_n C 0 rfl rfl dX5_takenShare_1 ?_
  refine v_getI C (nI (cn q 2)) fl_RX5_196 hA.k0 hV.v57 dX5_takenShare_2 ?_
  refine v_if_ne C 12 (by decide) dX5_takenShare_5 (fun c5 => ?_) (fun c5 => ?_)
  · refine v_iconst C 0 (by decide) dX5_takenShare_12 ?_
    refine v_putI C fl_RX5_62 hA.k0 rfl rfl dX5_takenShare_13 ?_
    refine v_aload_n C 0 rfl rfl dX5_takenShare_16 ?_
    refine v_getI C 0 fl_RX5_62 hA.k0 hI_sI1 dX5_takenShare_17 ?_
    refine v_if_ne C 39 (by decide) dX5_takenShare_20 (fun q => absurd (by decide) q) (fun _ => ?_)
    refine v_aload_n C 0 rfl rfl dX5_takenShare_23 ?_
    refine v_bipush C 104 (by decide) dX5_takenShare_24 ?_
    refine v_callVi C (st := []) [.int 104] (c_X5_count l (sI S 61 (am 0) 0) am q hB ((FrN.I (v := 0)).toA hA) ((FrN.I (v := 0)).toV hA hV) 104) ml_RX5_219 mi_yX5_count hA.k0 (by decide) (by decide +kernel) rfl (Nat.le_of_ble_eq_true rfl) (Nat.le_of_ble_eq_true rfl) (Nat.le_of_ble_eq_true rfl) (Nat.le_of_ble_eq_true rfl) (Nat.le_of_ble_eq_true rfl) dX5_takenShare_26 (fun r u h => ?_) _ rfl
    obtain ⟨rfl, rfl⟩ := h
    refine v_i2f C dX5_takenShare_29 ?_
    refine v_aload_n C 0 rfl rfl dX5_takenShare_30 ?_
    refine v_getI C (nI (cn q 2)) fl_RX5_196 hA.k0 ((hI_sI2 (fun q => absurd q.1 (by decide))).trans hV.v57) dX5_takenShare_31 ?_
    refine v_i2f C dX5_takenShare_34 ?_
    refine v_fdiv C (nn_f c5) dX5_takenShare_35 ?_
    refine v_goto C 40 (by decide) dX5_takenShare_36 ?_
    exact v_fret C hRT (Nat.le_of_ble_eq_true rfl) (Nat.le_of_ble_eq_true rfl) dX5_takenShare_40 ⟨_, rfl, Or.inl ⟨c5, FrN.I, hI_sI1, rfl⟩⟩
  · refine v_iconst C 1 (by decide) dX5_takenShare_8 ?_
    refine v_goto C 13 (by decide) dX5_takenShare_9 ?_
    refine v_putI C fl_RX5_62 hA.k0 rfl rfl dX5_takenShare_13 ?_
    refine v_aload_n C 0 rfl rfl dX5_takenShare_16 ?_
    refine v_getI C 1 fl_RX5_62 hA.k0 hI_sI1 dX5_takenShare_17 ?_
    refine v_if_ne C 39 (by decide) dX5_takenShare_20 (fun _ => ?_) (fun q => absurd q (by decide))
    refine v_fconst0 C dX5_takenShare_39 ?_
    exact v_fret C hRT (Nat.le_of_ble_eq_true rfl) (Nat.le_of_ble_eq_true rfl) dX5_takenShare_40 ⟨_, rfl, Or.inr ⟨c5, FrN.I, hI_sI1⟩⟩
set_option maxRecDepth 100000 in
set_option maxHeartbeats 4000000 in
theorem lp_X5_meanHits {l : Launch} {pP : Program} {eE : Env} {sS : State} {mM : MethodId} {aA : Array Value} {bB : List Frame} {tT : Method} {cC : Code} {G : GT} {A : Nat → Prop} {Q : State → Prop}  (S : HS) (am : AM) (q : AS) (hB : BI q) (hA : NA S am (cn q 1)) (hV : NV S am q)  (C : Cx pP l eE (rmD 10 0 0) sS mM aA bB tT cC cX5_meanHits 3 RX5 G A) (kk : V pP l eE (rmD 10 0 0) sS mM aA bB tT cC 3 G A S 0 0 Q 39 [(0, .ref (am 0)), (1, .int (iO (hsm q (cn q 1)))), (2, .int (nI (cn q 1)))] []) : ∀ (N : Nat) (t : Nat), (hN9 : cn q 1 + 1 ≤ t + N) → (hi : t ≤ cn q 1) → V pP l eE (rmD 10 0 0) sS mM aA bB tT cC 3 G A S 0 0 Q 4 [(0, .ref (am 0)), (1, .int (iO (hsm q t))), (2, .int (nI t))] [] := by
  intro N
  induction N with
  | zero =>
    intro t hN9 hi
    exact absurd hN9 (by omega)
  | succ N ih =>
    intro t hN9 hi
    have h60 := hA.hn
    refine v_iload_n C 2 rfl rfl dX5_meanHits_4 ?_
    refine v_aload_n C 0 rfl rfl dX5_meanHits_5 ?_
    refine v_getI C (nI (cn q 1)) fl_RX5_71 hA.k0 hV.v44 dX5_meanHits_6 ?_
    refine v_icmp_ge C 39 (by decide) dX5_meanHits_9 (fun c9 => ?_) (fun c9 => ?_)
    · obtain rfl : t = cn q 1 := by have := nge c9 (by omega); omega
      exact V.sub [0, 1, 2] rfl kk
    · have ht : t < cn q 1 := nlt c9 (by omega)
      refine v_iload_n C 1 rfl rfl dX5_meanHits_12 ?_
      refine v_aload_n C 0 rfl rfl dX5_meanHits_13 ?_
      refine v_iload_n C 2 rfl rfl dX5_meanHits_14 ?_
      refine v_callVi C (st := [.int (iO (hsm q t))]) [.int (nI t)] (c_X5_isLive l S am q hB hA hV t ht) ml_RX5_123 mi_yX5_isLive hA.k0 (by decide) (by decide +kernel) rfl (Nat.le_of_ble_eq_true rfl) (Nat.le_of_ble_eq_true rfl) (Nat.le_of_ble_eq_true rfl) (Nat.le_of_ble_eq_true rfl) (Nat.le_of_ble_eq_true rfl) dX5_meanHits_15 (fun r u h => ?_) _ rfl
      obtain ⟨rfl, rfl⟩ := h
      refine v_if_eq C 30 (by decide) dX5_meanHits_18 (fun c18 => ?_) (fun c18 => ?_)
      · refine v_iconst C 0 (by decide) dX5_meanHits_30 ?_
        refine v_iadd C dX5_meanHits_31 ?_
        rw [show ((iO (hsm q t)) + 0) = iO (hsm q t) from by rw [show (0 : Int32) = iO 0 from rfl, iO_add, Int.add_zero]]
        refine v_istore_n C [(1, .int (iO (hsm q t))), (0, .ref (am 0)), (2, .int (nI t))] (by decide) rfl rfl dX5_meanHits_32 ?_
        refine v_iinc C (nI (t + 1)) 2 [(2, .int (nI (t + 1))), (1, .int (iO (hsm q t))), (0, .ref (am 0))] rfl (by rw [← nI_1]; rfl) (by decide) rfl dX5_meanHits_33 ?_
        refine v_goto C 4 (by decide) dX5_meanHits_36 ?_
        have e2 : hsm q (t + 1) = hsm q t := if_neg (fun z => bI_e0 c18 (of_decide_eq_true z))
        refine V.sub [2, 1, 0] rfl ?_
        have key := ih (t + 1) (by omega) ht
        rw [e2] at key
        exact key
      · refine v_aload_n C 0 rfl rfl dX5_meanHits_21 ?_
        refine v_iload_n C 2 rfl rfl dX5_meanHits_22 ?_
        refine v_iconst C 5 (by decide) dX5_meanHits_23 ?_
        refine v_callVi C (st := [.int (iO (hsm q t))]) [.int (nI t), .int 5] (c_X5_of l S am (cn q 1) t 5 (by have := (hA).hn; omega) (by omega) hA) ml_RX5_74 mi_yX5_of hA.k0 (by decide) (by decide +kernel) rfl (Nat.le_of_ble_eq_true rfl) (Nat.le_of_ble_eq_true rfl) (Nat.le_of_ble_eq_true rfl) (Nat.le_of_ble_eq_true rfl) (Nat.le_of_ble_eq_true rfl) dX5_meanHits_24 (fun r u h => ?_) _ rfl
        obtain ⟨rfl, rfl⟩ := h
        rw [(hV).m t ht 5 (by omega)]
        refine v_goto C 31 (by decide) dX5_meanHits_27 ?_
        refine v_iadd C dX5_meanHits_31 ?_
        rw [iO_add]
        refine v_istore_n C [(1, .int (iO (hsm q t + zz q 3 t 5))), (0, .ref (am 0)), (2, .int (nI t))] (by decide) rfl rfl dX5_meanHits_32 ?_
        refine v_iinc C (nI (t + 1)) 2 [(2, .int (nI (t + 1))), (1, .int (iO (hsm q t + zz q 3 t 5))), (0, .ref (am 0))] rfl (by rw [← nI_1]; rfl) (by decide) rfl dX5_meanHits_33 ?_
        refine v_goto C 4 (by decide) dX5_meanHits_36 ?_
        have e2 : hsm q (t + 1) = hsm q t + zz q 3 t 5 := if_pos (decide_eq_true (bI_n0 c18))
        refine V.sub [2, 1, 0] rfl ?_
        have key := ih (t + 1) (by omega) ht
        rw [e2] at key
        exact key
set_option maxRecDepth 100000 in
set_option maxHeartbeats 4000000 in
theorem c_X5_meanHits (l : Launch) (S : HS) (am : AM) (q : AS) (hB : BI q) (hA : NA S am (cn q 1)) (hV : NV S am q)  : cM l yX5_meanHits cX5_meanHits 3 (Option.some Jvm.ClassFile.FieldType.double) 10 [.ref (am 0)] S (pD fun r u => (¬ nI (lcn q) = 0 ∧ FrN S u am ∧ hI u 61 (am 0) = 0 ∧ (FP.ddiv (FP.i2d (iO (hsm q (cn q 1)))) (FP.i2d (nI (lcn q)))) = r) ∨ (nI (lcn q) = 0 ∧ FrN S u am ∧ hI u 61 (am 0) = 1)) 0 0 := by
  refine cM_intro (by decide +kernel) cd_X5_meanHits (Nat.le_of_ble_eq_true rfl) ?_
  intro pP eE sS mM aA bB tT cC G A C hRT hin
  refine V.lvs (lv2 := [(0, .ref (am 0))]) rfl ?_
  refine v_iconst C 0 (by decide) dX5_meanHits_0 ?_
  refine v_istore_n C [(1, .int 0), (0, .ref (am 0))] (by decide) rfl rfl dX5_meanHits_1 ?_
  refine v_iconst C 0 (by decide) dX5_meanHits_2 ?_
  refine v_istore_n C [(2, .int 0), (1, .int 0), (0, .ref (am 0))] (by decide) rfl rfl dX5_meanHits_3 ?_
  refine V.sub [2, 1, 0] rfl (lp_X5_meanHits S am q hB hA hV C ?_ (cn q 1 + 1) 0 (by omega) (by omega))
  refine v_aload_n C 0 rfl rfl dX5_meanHits_39 ?_
  refine v_aload_n C 0 rfl rfl dX5_meanHits_40 ?_
  refine v_callVi C (st := [.ref (am 0)]) [] (c_X5_live l S am q hB hA hV) ml_RX5_166 mi_yX5_live hA.k0 (by decide) (by decide +kernel) rfl (Nat.le_of_ble_eq_true rfl) (Nat.le_of_ble_eq_true rfl) (Nat.le_of_ble_eq_true rfl) (Nat.le_of_ble_eq_true rfl) (Nat.le_of_ble_eq_true rfl) dX5_meanHits_41 (fun r u h => ?_) _ rfl
  obtain ⟨rfl, rfl⟩ := h
  refine v_if_ne C 51 (by decide) dX5_meanHits_44 (fun c44 => ?_) (fun c44 => ?_)
  · refine v_iconst C 0 (by decide) dX5_meanHits_51 ?_
    refine v_putI C fl_RX5_62 hA.k0 rfl rfl dX5_meanHits_52 ?_
    refine v_aload_n C 0 rfl rfl dX5_meanHits_55 ?_
    refine v_getI C 0 fl_RX5_62 hA.k0 hI_sI1 dX5_meanHits_56 ?_
    refine v_if_ne C 73 (by decide) dX5_meanHits_59 (fun q => absurd (by decide) q) (fun _ => ?_)
    refine v_iload_n C 1 rfl rfl dX5_meanHits_62 ?_
    refine v_i2d C dX5_meanHits_63 ?_
    refine v_aload_n C 0 rfl rfl dX5_meanHits_64 ?_
    refine v_callVi C (st := [.double (FP.i2d (iO (hsm q (cn q 1))))]) [] (c_X5_live l (sI S 61 (am 0) 0) am q hB ((FrN.I (v := 0)).toA hA) ((FrN.I (v := 0)).toV hA hV)) ml_RX5_166 mi_yX5_live hA.k0 (by decide) (by decide +kernel) rfl (Nat.le_of_ble_eq_true rfl) (Nat.le_of_ble_eq_true rfl) (Nat.le_of_ble_eq_true rfl) (Nat.le_of_ble_eq_true rfl) (Nat.le_of_ble_eq_true rfl) dX5_meanHits_65 (fun r u h => ?_) _ rfl
    obtain ⟨rfl, rfl⟩ := h
    refine v_i2d C dX5_meanHits_68 ?_
    refine v_ddiv C (nn_d c44) dX5_meanHits_69 ?_
    refine v_goto C 74 (by decide) dX5_meanHits_70 ?_
    exact v_dret C hRT (Nat.le_of_ble_eq_true rfl) (Nat.le_of_ble_eq_true rfl) dX5_meanHits_74 ⟨_, rfl, Or.inl ⟨c44, FrN.I, hI_sI1, rfl⟩⟩
  · refine v_iconst C 1 (by decide) dX5_meanHits_47 ?_
    refine v_goto C 52 (by decide) dX5_meanHits_48 ?_
    refine v_putI C fl_RX5_62 hA.k0 rfl rfl dX5_meanHits_52 ?_
    refine v_aload_n C 0 rfl rfl dX5_meanHits_55 ?_
    refine v_getI C 1 fl_RX5_62 hA.k0 hI_sI1 dX5_meanHits_56 ?_
    refine v_if_ne C 73 (by decide) dX5_meanHits_59 (fun _ => ?_) (fun q => absurd q (by decide))
    refine v_dconst0 C dX5_meanHits_73 ?_
    exact v_dret C hRT (Nat.le_of_ble_eq_true rfl) (Nat.le_of_ble_eq_true rfl) dX5_meanHits_74 ⟨_, rfl, Or.inr ⟨c44, FrN.I, hI_sI1⟩⟩
