/-- System.arraycopy of ints -/
def SC (own : String) (idx : Nat) : Prop := Cond.methodLink own idx arraycopyName ∈ wsG ∧ Cond.native arraycopyName ∈ wsG ∧ Cond.static arraycopyName ∈ wsG ∧ Cond.initialized "java/lang/System" ∈ wsG
section X3A
variable {p : Program} {l : Launch} {e : Env} {R : Room} {s : State} {m : MethodId} {args : Array Value} {below : List Frame} {meth : Method} {c : Code} {cc : ByteArray} {nL : Nat} {own : String} {G : GT} {A : Nat → Prop} {S : HS} {k n : Nat} {Q : State → Prop} {pc : Nat} {lv lv' : List (Nat × Value)} {st : List Value}
theorem v_copy4 (C : Cx p l e R s m args below meth c cc nL own G A) {idx a0 a : Nat} (hJ : SC own idx) (hk0 : hK S a0 = 10) (hk1 : hK S a = 10) (hn0 : hN S a0 = 4) (hn1 : hN S a = 4) (hRf : 1 ≤ R.frames) (hst : (st.map fun v => v.category).sum ≤ 8) (hRl : 8 + (nativeFrameWords "java/lang/System" "arraycopy" 5 + 11) ≤ R.locals) (hd : decode cc pc = .ok (.invokestatic idx, 3)) (kk : V p l e R s m args below meth c nL G A (rI S a (va_cpy (aI S a0) (aI S a) 0 0 4)) (k) (n) Q (pc + 3) (lv) (st)) : V p l e R s m args below meth c nL G A (S) (k) (n) Q (pc) (lv) (.int 4 :: .int 0 :: .ref a :: .int 0 :: .ref a0 :: st) := by
  intro H locs ls hW hS hv
  obtain ⟨ws, hP, hD, hL⟩ := id hW
  obtain ⟨q0, hq0⟩ := (hL a0 _).mp (cE_arr hk0 (by decide))
  obtain ⟨q1, hq1⟩ := (hL a _).mp (cE_arr hk1 (by decide))
  rw [cA_i (by omega), hn0] at hq0
  rw [cA_i (by omega), hn1] at hq1
  refine va_copyi C.1 C.2.1 (C.2.2.1.trans hv.1.symm) C.2.2.2.1 (C.2.2.2.2.1 _ hJ.1) (C.2.2.2.2.1 _ hJ.2.1) (C.2.2.2.2.1 _ hJ.2.2.1) (C.2.2.2.2.1 _ hJ.2.2.2) C.2.2.2.2.2.2.1.1 hP hD hS q0 q1 0 0 hq0 hq1 (gK_ty (kd := 10) (by decide) (by decide)) (gK_ty (kd := 10) (by decide) (by decide)) rfl (by decide) (by decide) (by decide) (by decide) (by decide) (fun i _ => rfl) hRf (by omega) hd (fun H1 locs1 hP1 hD1 hS1 => kk H1 locs1 ls ⟨_, hP1, hD1, wL_congr (wL_set hD hL hq1) (fun b => ?_)⟩ hS1 hv)
  rw [cE_rI (by omega) b, hk1, hn1]
  rfl
end X3A
theorem sc_RX1_43 : SC RX1 43 := ⟨wsG_in 288 (by decide +kernel) (by decide +kernel), wsG_in 290 (by decide +kernel) (by decide +kernel), wsG_in 289 (by decide +kernel) (by decide +kernel), wsG_in 59 (by decide +kernel) (by decide +kernel)⟩
set_option maxRecDepth 100000 in
set_option maxHeartbeats 4000000 in
theorem c_X1_keepChoice (l : Launch) (S : HS) (h0 ch bc : Nat) (x : Int64) (hk : hK S h0 = 2) (hk0 : hK S ch = 10) (hk1 : hK S bc = 10) (hr10 : hR S 10 h0 = some ch) (hr11 : hR S 11 h0 = some bc) (hn0 : hN S ch = 4) (hn1 : hN S bc = 4) : cM l yX1_keepChoice cX1_keepChoice 3 (Option.none : Option Jvm.ClassFile.FieldType) 3 [.ref h0, .long x] S (pV fun u => rI (sJ S 12 h0 x) bc (va_cpy (aI S ch) (aI S bc) 0 0 4) = u) 0 0 := by
  refine cM_intro (by decide +kernel) cd_X1_keepChoice (Nat.le_of_ble_eq_true rfl) ?_
  intro pP eE sS mM aA bB tT cC G A C hRT hin
  refine V.lvs (lv2 := [(0, .ref h0), (1, .long x)]) rfl ?_
  refine v_aload_n C 0 rfl rfl dX1_keepChoice_0 ?_
  refine v_lload_n C 1 rfl rfl dX1_keepChoice_1 ?_
  refine v_putJ C fl_RX1_40 hk rfl rfl dX1_keepChoice_2 ?_
  refine v_aload_n C 0 rfl rfl dX1_keepChoice_5 ?_
  refine v_getR C ch fl_RX1_22 hk hr10 dX1_keepChoice_6 ?_
  refine v_iconst C 0 (by decide) dX1_keepChoice_9 ?_
  refine v_aload_n C 0 rfl rfl dX1_keepChoice_10 ?_
  refine v_getR C bc fl_RX1_26 hk hr11 dX1_keepChoice_11 ?_
  refine v_iconst C 0 (by decide) dX1_keepChoice_14 ?_
  refine v_iconst C 4 (by decide) dX1_keepChoice_15 ?_
  refine v_copy4 C sc_RX1_43 hk0 hk1 hn0 hn1 (Nat.le_of_ble_eq_true rfl) (Nat.le_of_ble_eq_true rfl) (by decide +kernel) dX1_keepChoice_16 ?_
  exact v_vret C hRT (Nat.le_of_ble_eq_true rfl) (Nat.le_of_ble_eq_true rfl) dX1_keepChoice_19 ⟨rfl, rfl⟩
set_option maxRecDepth 100000 in
set_option maxHeartbeats 4000000 in
theorem c_X1_putCost (l : Launch) (S : HS) (h0 cs rr r t : Nat) (x : Int64) (hk : hK S h0 = 2) (hk1 : hK S cs = 16) (hk2 : hK S rr = 12) (hr8 : hR S 8 h0 = some cs) (hn1 : hN S cs = 4) (hn2 : hN S rr = 6) (ha : aR S cs r = some rr) (hr : r < 4) (ht : t < 6) : cM l yX1_putCost cX1_putCost 5 (Option.none : Option Jvm.ClassFile.FieldType) 2 [.ref h0, .int (nI r), .int (nI t), .long x] S (pV fun u => tJ S rr t x = u) 0 0 := by
  refine cM_intro (by decide +kernel) cd_X1_putCost (Nat.le_of_ble_eq_true rfl) ?_
  intro pP eE sS mM aA bB tT cC G A C hRT hin
  refine V.lvs (lv2 := [(0, .ref h0), (1, .int (nI r)), (2, .int (nI t)), (3, .long x)]) rfl ?_
  refine v_iload_n C 1 rfl rfl dX1_putCost_0 ?_
  refine v_if_lt C 28 (by decide) dX1_putCost_1 (fun q => (nI_pos (by omega) q).elim) (fun c1 => ?_)
  refine v_iload_n C 1 rfl rfl dX1_putCost_4 ?_
  refine v_iconst C 4 (by decide) dX1_putCost_5 ?_
  refine v_icmp_ge C 28 (by decide) dX1_putCost_6 (fun q => (nI_ge (a := r) (b := 4) hr (by decide) q).elim) (fun c6 => ?_)
  refine v_iload_n C 2 rfl rfl dX1_putCost_9 ?_
  refine v_if_lt C 28 (by decide) dX1_putCost_10 (fun q => (nI_pos (by omega) q).elim) (fun c10 => ?_)
  refine v_iload_n C 2 rfl rfl dX1_putCost_13 ?_
  refine v_bipush C 6 (by decide) dX1_putCost_14 ?_
  refine v_icmp_ge C 28 (by decide) dX1_putCost_16 (fun q => (nI_ge (a := t) (b := 6) ht (by decide) q).elim) (fun c16 => ?_)
  refine v_aload_n C 0 rfl rfl dX1_putCost_19 ?_
  refine v_getR C cs fl_RX1_19 hk hr8 dX1_putCost_20 ?_
  refine v_iload_n C 1 rfl rfl dX1_putCost_23 ?_
  refine v_aald C (some rr) (klt hk1 (by decide)) (kgt hk1 (by decide)) (by rw [hn1]; exact vp_in_nI hr (by decide)) ((congrArg _ (nI_clamp (by omega))).trans ha) dX1_putCost_24 ?_
  refine v_iload_n C 2 rfl rfl dX1_putCost_25 ?_
  refine v_lload_n C 3 rfl rfl dX1_putCost_26 ?_
  refine v_lastj C t (nI_clamp (by omega)) hk2 (by rw [hn2]; exact vp_in_nI ht (by decide)) dX1_putCost_27 ?_
  exact v_vret C hRT (Nat.le_of_ble_eq_true rfl) (Nat.le_of_ble_eq_true rfl) dX1_putCost_28 ⟨rfl, rfl⟩
set_option maxRecDepth 100000 in
set_option maxHeartbeats 4000000 in
theorem c_X1_trackAt_y (l : Launch) (S : HS) (h0 lt lc b1 : Nat) (hk : hK S h0 = 2) (hk2 : hK S lt = 15) (hr7 : hR S 7 h0 = some lt) (hn2 : hN S lt = 6) (h6 : hI S 6 h0 = nI lc) (hlc : lc ≤ 6) (hb : b1 < lc) : cM l yX1_trackAt cX1_trackAt 2 (Option.some (Jvm.ClassFile.FieldType.object "TrackFusion$Track")) 2 [.ref h0, .int (nI b1)] S (pQ fun z u => aR S lt b1 = z ∧ S = u) 0 0 := by
  refine cM_intro (by decide +kernel) cd_X1_trackAt (Nat.le_of_ble_eq_true rfl) ?_
  intro pP eE sS mM aA bB tT cC G A C hRT hin
  refine V.lvs (lv2 := [(0, .ref h0), (1, .int (nI b1))]) rfl ?_
  refine v_iload_n C 1 rfl rfl dX1_trackAt_0 ?_
  refine v_if_lt C 21 (by decide) dX1_trackAt_1 (fun q => (nI_pos (by omega) q).elim) (fun c1 => ?_)
  refine v_iload_n C 1 rfl rfl dX1_trackAt_4 ?_
  refine v_aload_n C 0 rfl rfl dX1_trackAt_5 ?_
  refine v_getI C (nI lc) fl_RX1_33 hk h6 dX1_trackAt_6 ?_
  refine v_icmp_ge C 21 (by decide) dX1_trackAt_9 (fun q => (nI_ge (a := b1) (b := lc) hb (by omega) q).elim) (fun c9 => ?_)
  refine v_iload_n C 1 rfl rfl dX1_trackAt_12 ?_
  refine v_aload_n C 0 rfl rfl dX1_trackAt_13 ?_
  refine v_getR C lt fl_RX1_11 hk hr7 dX1_trackAt_14 ?_
  refine v_alen C 6 (kle hk2 (by decide)) (kge hk2 (by decide)) (by rw [hn2]; rfl) dX1_trackAt_17 ?_
  refine v_icmp_lt C 25 (by decide) dX1_trackAt_18 (fun c18 => ?_) (fun q => (q (nI_lt (a := b1) (b := 6) (by omega) (by decide))).elim)
  refine v_aload_n C 0 rfl rfl dX1_trackAt_25 ?_
  refine v_getR C lt fl_RX1_11 hk hr7 dX1_trackAt_26 ?_
  refine v_iload_n C 1 rfl rfl dX1_trackAt_29 ?_
  refine v_aald C (aR S lt b1) (klt hk2 (by decide)) (kgt hk2 (by decide)) (by rw [hn2]; exact vp_in_nI (by omega) (by decide)) (congrArg _ (nI_clamp (by omega))) dX1_trackAt_30 ?_
  exact v_aret (r := (aR S lt b1)) C (Or.inl ⟨_, rfl⟩) hRT (Nat.le_of_ble_eq_true rfl) (Nat.le_of_ble_eq_true rfl) dX1_trackAt_31 ⟨_, rfl, rfl, rfl⟩
set_option maxRecDepth 100000 in
set_option maxHeartbeats 4000000 in
theorem c_X1_trackAt_n (l : Launch) (S : HS) (h0 : Nat) (i : Int32) (hi : i < 0) : cM l yX1_trackAt cX1_trackAt 2 (Option.some (Jvm.ClassFile.FieldType.object "TrackFusion$Track")) 2 [.ref h0, .int i] S (pQ fun z u => none = z ∧ S = u) 0 0 := by
  refine cM_intro (by decide +kernel) cd_X1_trackAt (Nat.le_of_ble_eq_true rfl) ?_
  intro pP eE sS mM aA bB tT cC G A C hRT hin
  refine V.lvs (lv2 := [(0, .ref h0), (1, .int i)]) rfl ?_
  refine v_iload_n C 1 rfl rfl dX1_trackAt_0 ?_
  refine v_if_lt C 21 (by decide) dX1_trackAt_1 (fun c1 => ?_) (fun q => (q hi).elim)
  refine v_null C dX1_trackAt_21 ?_
  refine v_goto C 31 (by decide) dX1_trackAt_22 ?_
  exact v_aret (r := none) C (Or.inl ⟨_, rfl⟩) hRT (Nat.le_of_ble_eq_true rfl) (Nat.le_of_ble_eq_true rfl) dX1_trackAt_31 ⟨_, rfl, rfl, rfl⟩
set_option maxRecDepth 100000 in
set_option maxHeartbeats 4000000 in
theorem c_X1_takerOf (l : Launch) (S : HS) (h0 bc lt nr lc r : Nat) (bv : Int) (hk : hK S h0 = 2) (hk1 : hK S bc = 10) (hk2 : hK S lt = 15) (hr11 : hR S 11 h0 = some bc) (hr7 : hR S 7 h0 = some lt) (hn1 : hN S bc = 4) (hn2 : hN S lt = 6) (h5 : hI S 5 h0 = nI nr) (h6 : hI S 6 h0 = nI lc) (hnr : nr ≤ 4) (hlc : lc ≤ 6) (hr : r < nr) (hbv : aI S bc r = iO bv) (hb1 : -1 ≤ bv) (hb2 : bv < lc) : cM l yX1_takerOf cX1_takerOf 2 (Option.some (Jvm.ClassFile.FieldType.object "TrackFusion$Track")) 3 [.ref h0, .int (nI r)] S (pQ fun z u => (if bv < 0 then none else aR S lt bv.toNat) = z ∧ S = u) 0 0 := by
  refine cM_intro (by decide +kernel) cd_X1_takerOf (Nat.le_of_ble_eq_true rfl) ?_
  intro pP eE sS mM aA bB tT cC G A C hRT hin
  refine V.lvs (lv2 := [(0, .ref h0), (1, .int (nI r))]) rfl ?_
  refine v_iload_n C 1 rfl rfl dX1_takerOf_0 ?_
  refine v_if_lt C 21 (by decide) dX1_takerOf_1 (fun q => (nI_pos (by omega) q).elim) (fun c1 => ?_)
  refine v_iload_n C 1 rfl rfl dX1_takerOf_4 ?_
  refine v_aload_n C 0 rfl rfl dX1_takerOf_5 ?_
  refine v_getI C (nI nr) fl_RX1_29 hk h5 dX1_takerOf_6 ?_
  refine v_icmp_ge C 21 (by decide) dX1_takerOf_9 (fun q => (nI_ge (a := r) (b := nr) hr (by omega) q).elim) (fun c9 => ?_)
  refine v_iload_n C 1 rfl rfl dX1_takerOf_12 ?_
  refine v_aload_n C 0 rfl rfl dX1_takerOf_13 ?_
  refine v_getR C bc fl_RX1_26 hk hr11 dX1_takerOf_14 ?_
  refine v_alen C 4 (kle hk1 (by decide)) (kge hk1 (by decide)) (by rw [hn1]; rfl) dX1_takerOf_17 ?_
  refine v_icmp_lt C 23 (by decide) dX1_takerOf_18 (fun c18 => ?_) (fun q => (q (nI_lt (a := r) (b := 4) (by omega) (by decide))).elim)
  refine v_aload_n C 0 rfl rfl dX1_takerOf_23 ?_
  refine v_aload_n C 0 rfl rfl dX1_takerOf_24 ?_
  refine v_getR C bc fl_RX1_26 hk hr11 dX1_takerOf_25 ?_
  refine v_iload_n C 1 rfl rfl dX1_takerOf_28 ?_
  refine v_iald C (iO bv) hk1 (by rw [hn1]; exact vp_in_nI (by omega) (by decide)) ((congrArg _ (nI_clamp (by omega))).trans hbv) dX1_takerOf_29 ?_
  by_cases hc : bv < 0
  · have hib : iO bv < 0 := (iO_lt (a := bv) (b := 0) (by omega) (by omega) (by omega) (by omega)).mpr hc
    refine v_callVq C (st := []) [.int (iO bv)] (c_X1_trackAt_n l S h0 (iO bv) hib) ml_RX1_49 mi_yX1_trackAt hk (by decide) (by decide +kernel) rfl (Nat.le_of_ble_eq_true rfl) (Nat.le_of_ble_eq_true rfl) (Nat.le_of_ble_eq_true rfl) (Nat.le_of_ble_eq_true rfl) (Nat.le_of_ble_eq_true rfl) dX1_takerOf_30 (fun r u h => ?_) _ rfl
    obtain ⟨rfl, rfl⟩ := h
    exact v_aret (r := none) C (Or.inl ⟨_, rfl⟩) hRT (Nat.le_of_ble_eq_true rfl) (Nat.le_of_ble_eq_true rfl) dX1_takerOf_33 ⟨_, rfl, if_pos hc, rfl⟩
  · obtain ⟨b1, rfl⟩ : ∃ b1 : Nat, bv = b1 := ⟨bv.toNat, by omega⟩
    rw [← nI_iO]
    refine v_callVq C (st := []) [.int (nI b1)] (c_X1_trackAt_y l S h0 lt lc b1 hk hk2 hr7 hn2 h6 hlc (by omega)) ml_RX1_49 mi_yX1_trackAt hk (by decide) (by decide +kernel) rfl (Nat.le_of_ble_eq_true rfl) (Nat.le_of_ble_eq_true rfl) (Nat.le_of_ble_eq_true rfl) (Nat.le_of_ble_eq_true rfl) (Nat.le_of_ble_eq_true rfl) dX1_takerOf_30 (fun r u h => ?_) _ rfl
    obtain ⟨rfl, rfl⟩ := h
    exact v_aret (r := (aR S lt b1)) C (Or.inl ⟨_, rfl⟩) hRT (Nat.le_of_ble_eq_true rfl) (Nat.le_of_ble_eq_true rfl) dX1_takerOf_33 ⟨_, rfl, by rw [if_neg (by omega)]; rfl, rfl⟩
/-- does one below n hold it? -/
def anyP (p : Nat → Bool) : Nat → Bool
  | 0 => false
  | n + 1 => anyP p n || p n
theorem anyP_iff {p : Nat → Bool} : ∀ {n : Nat}, anyP p n = true ↔ ∃ j, j < n ∧ p j = true
  | 0 => ⟨fun h => (by cases h), fun ⟨j, h, _⟩ => (by omega)⟩
  | n + 1 => by
    unfold anyP
    rw [Bool.or_eq_true, anyP_iff]
    constructor
    · rintro (⟨j, h1, h2⟩ | h)
      · exact ⟨j, by omega, h2⟩
      · exact ⟨n, by omega, h⟩
    · rintro ⟨j, h1, h2⟩
      by_cases hj : j = n
      · subst hj; exact Or.inr h2
      · exact Or.inl ⟨j, by omega, h2⟩
set_option maxRecDepth 100000 in
set_option maxHeartbeats 4000000 in
theorem lp_X1_hasReportFor {l : Launch} {pP : Program} {eE : Env} {sS : State} {mM : MethodId} {aA : Array Value} {bB : List Frame} {tT : Method} {cC : Code} {G : GT} {A : Nat → Prop} {Q : State → Prop}  (S : HS) (h0 bc nr : Nat) (x : Int32) (hk : hK S h0 = 2) (hk1 : hK S bc = 10) (hr11 : hR S 11 h0 = some bc) (hn1 : hN S bc = 4) (h5 : hI S 5 h0 = nI nr) (hnr : nr ≤ 4) (C : Cx pP l eE (rmD 2 0 0) sS mM aA bB tT cC cX1_hasReportFor 3 RX1 G A) (kk : (∀ j, j < nr → ¬ aI S bc j = x) → V pP l eE (rmD 2 0 0) sS mM aA bB tT cC 3 G A S 0 0 Q 37 [(0, .ref h0), (1, .int x), (2, .int (nI nr))] []) (kk2 : ∀ i, i < nr → aI S bc i = x → V pP l eE (rmD 2 0 0) sS mM aA bB tT cC 3 G A S 0 0 Q 29 [(0, .ref h0), (1, .int x), (2, .int (nI i))] []) : ∀ (N : Nat) (i : Nat), (hN9 : nr + 1 ≤ i + N) → (hi : i ≤ nr) → (hno : ∀ j, j < i → ¬ aI S bc j = x) → V pP l eE (rmD 2 0 0) sS mM aA bB tT cC 3 G A S 0 0 Q 2 [(0, .ref h0), (1, .int x), (2, .int (nI i))] [] := by
  intro N
  induction N with
  | zero =>
    intro i hN9 hi hno
    exact absurd hN9 (by omega)
  | succ N ih =>
    intro i hN9 hi hno
    refine v_iload_n C 2 rfl rfl dX1_hasReportFor_2 ?_
    refine v_aload_n C 0 rfl rfl dX1_hasReportFor_3 ?_
    refine v_getI C (nI nr) fl_RX1_29 hk h5 dX1_hasReportFor_4 ?_
    refine v_icmp_ge C 37 (by decide) dX1_hasReportFor_7 (fun c7 => ?_) (fun c7 => ?_)
    · obtain rfl : i = nr := by have := nge c7 (by omega); omega
      exact V.sub [0, 1, 2] rfl (kk hno)
    · have hlt := nlt c7 (by omega)
      refine v_iload_n C 2 rfl rfl dX1_hasReportFor_10 ?_
      refine v_aload_n C 0 rfl rfl dX1_hasReportFor_11 ?_
      refine v_getR C bc fl_RX1_26 hk hr11 dX1_hasReportFor_12 ?_
      refine v_alen C 4 (kle hk1 (by decide)) (kge hk1 (by decide)) (by rw [hn1]; rfl) dX1_hasReportFor_15 ?_
      refine v_icmp_ge C 37 (by decide) dX1_hasReportFor_16 (fun q => (nI_ge (a := i) (b := 4) (by omega) (by decide) q).elim) (fun c16 => ?_)
      refine v_aload_n C 0 rfl rfl dX1_hasReportFor_19 ?_
      refine v_getR C bc fl_RX1_26 hk hr11 dX1_hasReportFor_20 ?_
      refine v_iload_n C 2 rfl rfl dX1_hasReportFor_23 ?_
      refine v_iald C (aI S bc i) hk1 (by rw [hn1]; exact vp_in_nI (by omega) (by decide)) (congrArg _ (nI_clamp (by omega))) dX1_hasReportFor_24 ?_
      refine v_iload_n C 1 rfl rfl dX1_hasReportFor_25 ?_
      refine v_icmp_ne C 31 (by decide) dX1_hasReportFor_26 (fun c26 => ?_) (fun c26 => ?_)
      · refine v_iinc C (nI (i + 1)) 2 [(2, .int (nI (i + 1))), (0, .ref h0), (1, .int x)] rfl (by rw [← nI_1]; rfl) (by decide) rfl dX1_hasReportFor_31 ?_
        refine v_goto C 2 (by decide) dX1_hasReportFor_34 ?_
        exact V.sub [1, 2, 0] rfl (ih (i + 1) (by omega) (by omega) (lt_s hno c26))
      · exact V.sub [0, 1, 2] rfl (kk2 i hlt c26)
set_option maxRecDepth 100000 in
set_option maxHeartbeats 4000000 in
theorem c_X1_hasReportFor (l : Launch) (S : HS) (h0 bc nr : Nat) (x : Int32) (hk : hK S h0 = 2) (hk1 : hK S bc = 10) (hr11 : hR S 11 h0 = some bc) (hn1 : hN S bc = 4) (h5 : hI S 5 h0 = nI nr) (hnr : nr ≤ 4) : cM l yX1_hasReportFor cX1_hasReportFor 3 (Option.some Jvm.ClassFile.FieldType.boolean) 2 [.ref h0, .int x] S (pI fun z u => bI (anyP (fun r => decide (aI S bc r = x)) nr = true) = z ∧ S = u) 0 0 := by
  refine cM_intro (by decide +kernel) cd_X1_hasReportFor (Nat.le_of_ble_eq_true rfl) ?_
  intro pP eE sS mM aA bB tT cC G A C hRT hin
  refine V.lvs (lv2 := [(0, .ref h0), (1, .int x)]) rfl ?_
  refine v_iconst C 0 (by decide) dX1_hasReportFor_0 ?_
  refine v_istore_n C [(2, .int 0), (0, .ref h0), (1, .int x)] (by decide) rfl rfl dX1_hasReportFor_1 ?_
  refine V.sub [1, 2, 0] rfl (lp_X1_hasReportFor S h0 bc nr x hk hk1 hr11 hn1 h5 hnr C (fun hno9 => ?_) (fun i hi9 hx9 => ?_) (nr + 1) 0 (by omega) (by omega) (fun j hj => by omega))
  · refine v_iconst C 0 (by decide) dX1_hasReportFor_37 ?_
    exact v_zret C rfl hRT (Nat.le_of_ble_eq_true rfl) (Nat.le_of_ble_eq_true rfl) dX1_hasReportFor_38 ⟨_, rfl, bI0 (fun z => by obtain ⟨j, h1, h2⟩ := anyP_iff.mp z; exact hno9 j h1 (of_decide_eq_true h2)), rfl⟩
  · refine v_iconst C 1 (by decide) dX1_hasReportFor_29 ?_
    exact v_zret C rfl hRT (Nat.le_of_ble_eq_true rfl) (Nat.le_of_ble_eq_true rfl) dX1_hasReportFor_30 ⟨_, rfl, bI1 (anyP_iff.mpr ⟨_, hi9, decide_eq_true hx9⟩), rfl⟩
