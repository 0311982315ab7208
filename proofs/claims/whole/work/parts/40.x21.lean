theorem and_mask32 (a : UInt32) (h : a.toNat % 2 ^ 31 ≤ 2139095040) : vf_n32 a := by
  unfold vf_n32
  rw [UInt32.le_iff_toNat_le, UInt32.toNat_and]
  have e : (0x7fffffff : UInt32).toNat = 2 ^ 31 - 1 := rfl
  rw [e, Nat.and_two_pow_sub_one_eq_mod]
  exact h
theorem and_mask64 (a : UInt64) (h : a.toNat % 2 ^ 63 ≤ 9218868437227405312) : vf_n64 a := by
  unfold vf_n64
  rw [UInt64.le_iff_toNat_le, UInt64.toNat_and]
  have e : (0x7fffffffffffffff : UInt64).toNat = 2 ^ 63 - 1 := rfl
  rw [e, Nat.and_two_pow_sub_one_eq_mod]
  exact h
theorem fin_nn32 {a : UInt32} (h : FP.Core.FFin a) : FP.Core.fIsNaN a = false := by
  rw [FP.Core.notNaN_iff32]
  obtain ⟨s, c, q, e⟩ := h
  rw [e]
  intro z
  cases z
theorem fin_nn64 {a : UInt64} (h : FP.Core.DFin a) : FP.Core.dIsNaN a = false := by
  rw [FP.Core.notNaN_iff]
  obtain ⟨s, c, q, e⟩ := h
  rw [e]
  intro z
  cases z
/-- a quotient of ints is a number -/
theorem nn_f {a b : Int32} (hb : b ≠ 0) : vf_n32 (FP.fdiv (FP.i2f a) (FP.i2f b)) := by
  have h := FP.Core.fdiv_out (fin_nn32 (FP.Core.i2f_fin a)) (FP.Core.i2f_fin b) (fun z => FP.Core.i2f_ne_zero hb ((FP.Core.zero_bits232 _).mp z))
  rw [FP.Core.notNaN_iff32, FP.Core.ne_nan32] at h
  exact and_mask32 _ h
theorem nn_d {a b : Int32} (hb : b ≠ 0) : vf_n64 (FP.ddiv (FP.i2d a) (FP.i2d b)) := by
  have h := FP.Core.ddiv_out (fin_nn64 (FP.Core.i2d_fin a)) (FP.Core.i2d_fin b) (fun z => FP.Core.i2d_ne_zero hb ((FP.Core.zero_bits2 _).mp z))
  rw [FP.Core.notNaN_iff, FP.Core.ne_nan] at h
  exact and_mask64 _ h
section FDIV
variable {p : Program} {l : Launch} {e : Env} {R : Room} {s : State} {m : MethodId} {args : Array Value} {below : List Frame} {meth : Method} {c : Code} {cc : ByteArray} {nL : Nat} {own : String} {G : GT} {A : Nat → Prop} {S : HS} {k n : Nat} {Q : State → Prop} {pc : Nat} {lv lv' : List (Nat × Value)} {st : List Value}
theorem v_fdiv (C : Cx p l e R s m args below meth c cc nL own G A) {x y : UInt32} (hne : vf_n32 (FP.fdiv x y)) (hd : decode cc pc = .ok (.fdiv, 1)) (kk : V p l e R s m args below meth c nL G A (S) (k) (n) Q (pc + 1) (lv) (.float (FP.fdiv x y) :: st)) : V p l e R s m args below meth c nL G A (S) (k) (n) Q (pc) (lv) (.float y :: .float x :: st) := fun H locs ls hW hS hv => lv_fdiv C.1 C.2.1 hd hne (kk H locs ls hW hS hv)
theorem v_ddiv (C : Cx p l e R s m args below meth c cc nL own G A) {x y : UInt64} (hne : vf_n64 (FP.ddiv x y)) (hd : decode cc pc = .ok (.ddiv, 1)) (kk : V p l e R s m args below meth c nL G A (S) (k) (n) Q (pc + 1) (lv) (.double (FP.ddiv x y) :: st)) : V p l e R s m args below meth c nL G A (S) (k) (n) Q (pc) (lv) (.double y :: .double x :: st) := fun H locs ls hW hS hv => lv_ddiv C.1 C.2.1 hd hne (kk H locs ls hW hS hv)
end FDIV
set_option maxRecDepth 100000 in
set_option maxHeartbeats 4000000 in
theorem c_X4_takenShare (l : Launch) (hlf : l.stackTraces = false) (S : HS) (ad : AD) (q : AS) (hB : BI q) (hA : XA S ad (cn q 1)) (hV : XV S ad q)  : cX l yX4_takenShare cX4_takenShare 1 (Option.some Jvm.ClassFile.FieldType.float) 8 [.ref (ad 0 0)] S (pF fun r u => ¬ nI (cn q 2) = 0 ∧ S = u ∧ (FP.fdiv (FP.i2f (nI (sgc q 104 (cn q 1)))) (FP.i2f (nI (cn q 2)))) = r) (fun E u => E = eAR ∧ S = u ∧ nI (cn q 2) = 0) 1 6 := by
  refine cX_intro (by decide +kernel) cd_X4_takenShare (Nat.le_of_ble_eq_true rfl) ?_
  intro pP eE sS mM aA bB tT cC G A C hRT hnt
  refine V.lvs (lv2 := [(0, .ref (ad 0 0))]) rfl ?_
  refine v_aload_n C 0 rfl rfl dX4_takenShare_0 ?_
  refine v_getI C (nI (cn q 2)) fl_RX4_127 hA.k0 hV.v39 dX4_takenShare_1 ?_
  refine v_if_ne C 18 (by decide) dX4_takenShare_4 (fun c4 => ?_) (fun c4 => ?_)
  · refine v_aload_n C 0 rfl rfl dX4_takenShare_18 ?_
    refine v_bipush C 104 (by decide) dX4_takenShare_19 ?_
    refine v_callVi C (st := []) [.int 104] (c_X4_countSigns l S ad q 104 hA hV hB) ml_RX4_341 mi_yX4_countSigns hA.k0 (by decide) (by decide +kernel) rfl (Nat.le_of_ble_eq_true rfl) (Nat.le_of_ble_eq_true rfl) (Nat.le_of_ble_eq_true rfl) (Nat.le_of_ble_eq_true rfl) (Nat.le_of_ble_eq_true rfl) dX4_takenShare_21 (fun r u h => ?_) _ rfl
    obtain ⟨rfl, rfl⟩ := h
    refine v_i2f C dX4_takenShare_24 ?_
    refine v_aload_n C 0 rfl rfl dX4_takenShare_25 ?_
    refine v_getI C (nI (cn q 2)) fl_RX4_127 hA.k0 hV.v39 dX4_takenShare_26 ?_
    refine v_i2f C dX4_takenShare_29 ?_
    refine v_fdiv C (nn_f c4) dX4_takenShare_30 ?_
    exact v_xfret C hRT (Nat.le_of_ble_eq_true rfl) (Nat.le_of_ble_eq_true rfl) dX4_takenShare_31 ⟨_, rfl, c4, rfl, rfl⟩
  · exact v_throwSW C hlf tl_352_354 hnt (Nat.le_of_ble_eq_true rfl) (Nat.le_of_ble_eq_true rfl) (Nat.le_of_ble_eq_true rfl) (Nat.le_of_ble_eq_true rfl) (Nat.le_of_ble_eq_true rfl) (Nat.le_of_ble_eq_true rfl) (Nat.le_of_ble_eq_true rfl) ⟨rfl, rfl, c4⟩ dX4_takenShare_7 dX4_takenShare_10 dX4_takenShare_11 dX4_takenShare_14 dX4_takenShare_17
/-- the hits of the live tracks -/
def hsm (q : AS) : Nat → Int
  | 0 => 0
  | i + 1 => if liveP q i = true then hsm q i + zz q 3 i 5 else hsm q i
set_option maxRecDepth 100000 in
set_option maxHeartbeats 4000000 in
theorem lp_X4_meanHits {l : Launch} {pP : Program} {eE : Env} {sS : State} {mM : MethodId} {aA : Array Value} {bB : List Frame} {tT : Method} {cC : Code} {G : GT} {A : Nat → Prop} {Q : State → Prop}  (S : HS) (ad : AD) (q : AS) (hB : BI q) (hA : XA S ad (cn q 1)) (hV : XV S ad q)  (C : Cx pP l eE (rmD 8 1 6) sS mM aA bB tT cC cX4_meanHits 5 RX4 G A) (kk : V pP l eE (rmD 8 1 6) sS mM aA bB tT cC 5 G A S 0 0 Q 43 [(0, .ref (ad 0 0)), (1, .int (nI (cntP (liveP q) (cn q 1)))), (2, .int (iO (hsm q (cn q 1)))), (3, .int (nI (cn q 1)))] []) : ∀ (N : Nat) (i : Nat), (hN9 : cn q 1 + 1 ≤ i + N) → (hi : i ≤ cn q 1) → V pP l eE (rmD 8 1 6) sS mM aA bB tT cC 5 G A S 0 0 Q 6 [(0, .ref (ad 0 0)), (1, .int (nI (cntP (liveP q) i))), (2, .int (iO (hsm q i))), (3, .int (nI i))] [] := by
  intro N
  induction N with
  | zero =>
    intro i hN9 hi
    exact absurd hN9 (by omega)
  | succ N ih =>
    intro i hN9 hi
    have hn6 := hA.hn
    refine v_iload_n C 3 rfl rfl dX4_meanHits_6 ?_
    refine v_aload_n C 0 rfl rfl dX4_meanHits_7 ?_
    refine v_getI C (nI (cn q 1)) fl_RX4_184 hA.k0 hV.v32 dX4_meanHits_8 ?_
    refine v_icmp_ge C 43 (by decide) dX4_meanHits_11 (fun c11 => ?_) (fun c11 => ?_)
    · obtain rfl : i = cn q 1 := by have := nge c11 (by omega); omega
      exact V.sub [0, 1, 2, 3] rfl kk
    · have hlt : i < cn q 1 := nlt c11 (by omega)
      by_cases hc : zz q 3 i 7 = 0
      · have hv9 : hI S 24 (ad 6 i) = 1 := by rw [hV.t24 i hlt]; exact bI1 hc
        refine v_aload_n C 0 rfl rfl dX4_meanHits_14 ?_
        refine v_iload_n C 3 rfl rfl dX4_meanHits_15 ?_
        refine v_callVq C (st := []) [.int (nI i)] (c_X4_liveTrackAt_y l S ad (cn q 1) i hA hlt hv9) ml_RX4_187 mi_yX4_liveTrackAt hA.k0 (by decide) (by decide +kernel) rfl (Nat.le_of_ble_eq_true rfl) (Nat.le_of_ble_eq_true rfl) (Nat.le_of_ble_eq_true rfl) (Nat.le_of_ble_eq_true rfl) (Nat.le_of_ble_eq_true rfl) dX4_meanHits_16 (fun r u h => ?_) _ rfl
        obtain ⟨rfl, rfl⟩ := h
        refine v_astore C [(4, .ref (ad 6 i)), (0, .ref (ad 0 0)), (1, .int (nI (cntP (liveP q) i))), (2, .int (iO (hsm q i))), (3, .int (nI i))] (by decide) rfl dX4_meanHits_19 ?_
        refine v_aload C 0 rfl dX4_meanHits_21 ?_
        refine v_ifnull C dX4_meanHits_23 ?_
        refine v_iinc C (nI (cntP (liveP q) i + 1)) 2 [(1, .int (nI (cntP (liveP q) i + 1))), (4, .ref (ad 6 i)), (0, .ref (ad 0 0)), (2, .int (iO (hsm q i))), (3, .int (nI i))] rfl (by rw [← nI_1]; rfl) (by decide) rfl dX4_meanHits_26 ?_
        refine v_iload_n C 3 rfl rfl dX4_meanHits_29 ?_
        refine v_aload C 1 rfl dX4_meanHits_30 ?_
        refine v_getI C (iO (zz q 3 i 5)) fl_RX4_298 (hA.k6 i hlt) (hV.tv i hlt 5 (by decide)) dX4_meanHits_32 ?_
        refine v_iadd C dX4_meanHits_35 ?_
        refine v_istore_n C [(2, .int ((iO (hsm q i)) + (iO (zz q 3 i 5)))), (1, .int (nI (cntP (liveP q) i + 1))), (4, .ref (ad 6 i)), (0, .ref (ad 0 0)), (3, .int (nI i))] (by decide) rfl rfl dX4_meanHits_36 ?_
        refine v_iinc C (nI (i + 1)) 4 [(3, .int (nI (i + 1))), (2, .int ((iO (hsm q i)) + (iO (zz q 3 i 5)))), (1, .int (nI (cntP (liveP q) i + 1))), (4, .ref (ad 6 i)), (0, .ref (ad 0 0))] rfl (by rw [← nI_1]; rfl) (by decide) rfl dX4_meanHits_37 ?_
        refine v_goto C 6 (by decide) dX4_meanHits_40 ?_
        have e1 := cntP_t (p := liveP q) (n := i) (decide_eq_true hc)
        have e2 : hsm q (i + 1) = hsm q i + zz q 3 i 5 := if_pos (decide_eq_true hc)
        refine V.sub [4, 2, 1, 0] rfl ?_
        have key := ih (i + 1) (by omega) hlt
        rw [e1, e2, ← iO_add] at key
        exact key
      · have hv9 : hI S 24 (ad 6 i) = 0 := by rw [hV.t24 i hlt]; exact bI0 hc
        refine v_aload_n C 0 rfl rfl dX4_meanHits_14 ?_
        refine v_iload_n C 3 rfl rfl dX4_meanHits_15 ?_
        refine v_callVq C (st := []) [.int (nI i)] (c_X4_liveTrackAt_d l S ad (cn q 1) i hA hlt hv9) ml_RX4_187 mi_yX4_liveTrackAt hA.k0 (by decide) (by decide +kernel) rfl (Nat.le_of_ble_eq_true rfl) (Nat.le_of_ble_eq_true rfl) (Nat.le_of_ble_eq_true rfl) (Nat.le_of_ble_eq_true rfl) (Nat.le_of_ble_eq_true rfl) dX4_meanHits_16 (fun r u h => ?_) _ rfl
        obtain ⟨rfl, rfl⟩ := h
        refine v_astoreN C [(4, .null), (0, .ref (ad 0 0)), (1, .int (nI (cntP (liveP q) i))), (2, .int (iO (hsm q i))), (3, .int (nI i))] (by decide) rfl dX4_meanHits_19 ?_
        refine v_aloadN C 0 rfl dX4_meanHits_21 ?_
        refine v_ifnullN C 37 (by decide) dX4_meanHits_23 ?_
        refine v_iinc C (nI (i + 1)) 4 [(3, .int (nI (i + 1))), (4, .null), (0, .ref (ad 0 0)), (1, .int (nI (cntP (liveP q) i))), (2, .int (iO (hsm q i)))] rfl (by rw [← nI_1]; rfl) (by decide) rfl dX4_meanHits_37 ?_
        refine v_goto C 6 (by decide) dX4_meanHits_40 ?_
        have e1 := cntP_f (p := liveP q) (n := i) (decide_eq_false hc)
        have e2 : hsm q (i + 1) = hsm q i := if_neg (fun z => hc (of_decide_eq_true z))
        refine V.sub [2, 3, 4, 0] rfl ?_
        have key := ih (i + 1) (by omega) hlt
        rw [e1, e2] at key
        exact key
set_option maxRecDepth 100000 in
set_option maxHeartbeats 4000000 in
theorem c_X4_meanHits (l : Launch) (hlf : l.stackTraces = false) (S : HS) (ad : AD) (q : AS) (hB : BI q) (hA : XA S ad (cn q 1)) (hV : XV S ad q)  : cX l yX4_meanHits cX4_meanHits 5 (Option.some Jvm.ClassFile.FieldType.double) 8 [.ref (ad 0 0)] S (pD fun r u => ¬ nI (lcn q) = 0 ∧ S = u ∧ (FP.ddiv (FP.i2d (iO (hsm q (cn q 1)))) (FP.i2d (nI (lcn q)))) = r) (fun E u => E = eAR ∧ S = u ∧ nI (lcn q) = 0) 1 6 := by
  refine cX_intro (by decide +kernel) cd_X4_meanHits (Nat.le_of_ble_eq_true rfl) ?_
  intro pP eE sS mM aA bB tT cC G A C hRT hnt
  refine V.lvs (lv2 := [(0, .ref (ad 0 0))]) rfl ?_
  refine v_iconst C 0 (by decide) dX4_meanHits_0 ?_
  refine v_istore_n C [(1, .int 0), (0, .ref (ad 0 0))] (by decide) rfl rfl dX4_meanHits_1 ?_
  refine v_iconst C 0 (by decide) dX4_meanHits_2 ?_
  refine v_istore_n C [(2, .int 0), (1, .int 0), (0, .ref (ad 0 0))] (by decide) rfl rfl dX4_meanHits_3 ?_
  refine v_iconst C 0 (by decide) dX4_meanHits_4 ?_
  refine v_istore_n C [(3, .int 0), (2, .int 0), (1, .int 0), (0, .ref (ad 0 0))] (by decide) rfl rfl dX4_meanHits_5 ?_
  refine V.sub [3, 2, 1, 0] rfl (lp_X4_meanHits S ad q hB hA hV C ?_ (cn q 1 + 1) 0 (by omega) (by omega))
  refine v_iload_n C 1 rfl rfl dX4_meanHits_43 ?_
  refine v_if_ne C 58 (by decide) dX4_meanHits_44 (fun c44 => ?_) (fun c44 => ?_)
  · refine v_iload_n C 2 rfl rfl dX4_meanHits_58 ?_
    refine v_i2d C dX4_meanHits_59 ?_
    refine v_iload_n C 1 rfl rfl dX4_meanHits_60 ?_
    refine v_i2d C dX4_meanHits_61 ?_
    refine v_ddiv C (nn_d c44) dX4_meanHits_62 ?_
    exact v_xdret C hRT (Nat.le_of_ble_eq_true rfl) (Nat.le_of_ble_eq_true rfl) dX4_meanHits_63 ⟨_, rfl, c44, rfl, rfl⟩
  · exact v_throwSW C hlf tl_352_345 hnt (Nat.le_of_ble_eq_true rfl) (Nat.le_of_ble_eq_true rfl) (Nat.le_of_ble_eq_true rfl) (Nat.le_of_ble_eq_true rfl) (Nat.le_of_ble_eq_true rfl) (Nat.le_of_ble_eq_true rfl) (Nat.le_of_ble_eq_true rfl) ⟨rfl, rfl, c44⟩ dX4_meanHits_47 dX4_meanHits_50 dX4_meanHits_51 dX4_meanHits_54 dX4_meanHits_57
