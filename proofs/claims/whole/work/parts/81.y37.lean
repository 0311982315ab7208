/-! the class's cells, the model's cells, and the two rows of the law, in one world -/
theorem aD_tD2 {S : HS} {a j a' : Nat} {v : UInt64} (h : a' ≠ a) : aD (tD S a j v) a' = aD S a' := by funext z; simp [aD, tD, u2, h]
theorem aD_tD1 {S : HS} {a j : Nat} {v : UInt64} (z : Nat) : aD (tD S a j v) a z = if z = j then v else aD S a z := by simp [aD, tD, u2]
def LJ (w S1 S2 : HS) (ad : AD) (am : AM) (q1 q2 : AS) (ao dx : Nat) : Prop := Inn S1 w ∧ Inn S2 w ∧ (∀ a, hK S2 a ≠ 0 → hK S1 a = 0) ∧ (XA S1 ad (cn q1 1) ∧ XV S1 ad q1) ∧ (NA S2 am (cn q2 1) ∧ NV S2 am q2) ∧ (hK w ao = 12 ∧ hN w ao = 1 ∧ hK S1 ao = 0 ∧ hK S2 ao = 0) ∧ (hK w dx = 18 ∧ hN w dx = 1 ∧ hK S1 dx = 0 ∧ hK S2 dx = 0)
section LJS
variable {w S1 S2 : HS} {ad : AD} {am : AM} {q1 q2 : AS} {ao dx : Nat}
theorem LJ.i1 (h : LJ w S1 S2 ad am q1 q2 ao dx) : Inn S1 w := h.1
theorem LJ.i2 (h : LJ w S1 S2 ad am q1 q2 ao dx) : Inn S2 w := h.2.1
theorem LJ.hA (h : LJ w S1 S2 ad am q1 q2 ao dx) : XA S1 ad (cn q1 1) := h.2.2.2.1.1
theorem LJ.hV (h : LJ w S1 S2 ad am q1 q2 ao dx) : XV S1 ad q1 := h.2.2.2.1.2
theorem LJ.nA (h : LJ w S1 S2 ad am q1 q2 ao dx) : NA S2 am (cn q2 1) := h.2.2.2.2.1.1
theorem LJ.nV (h : LJ w S1 S2 ad am q1 q2 ao dx) : NV S2 am q2 := h.2.2.2.2.1.2
theorem LJ.rao (h : LJ w S1 S2 ad am q1 q2 ao dx) : hK w ao = 12 ∧ hN w ao = 1 ∧ hK S1 ao = 0 ∧ hK S2 ao = 0 := h.2.2.2.2.2.1
theorem LJ.rdx (h : LJ w S1 S2 ad am q1 q2 ao dx) : hK w dx = 18 ∧ hN w dx = 1 ∧ hK S1 dx = 0 ∧ hK S2 dx = 0 := h.2.2.2.2.2.2
theorem LJ.kx (h : LJ w S1 S2 ad am q1 q2 ao dx) : hK w (ad 0 0) = 5 := by
  have h5 := h.hA.k0
  rw [(h.i1 _ (by rw [h5]; decide)).1]
  exact h5
theorem LJ.km (h : LJ w S1 S2 ad am q1 q2 ao dx) : hK w (am 0) = 6 := by
  have h5 := h.nA.k0
  rw [(h.i2 _ (by rw [h5]; decide)).1]
  exact h5
theorem LJ.cls (h : LJ w S1 S2 ad am q1 q2 ao dx) {u : HS} {ad' : AD} {q' : AS} (hA : XA u ad' (cn q' 1)) (hV : XV u ad' q') (c : Cov S1 u w) : LJ (fr S1 u w) u S2 ad' am q' q2 ao dx := by
  obtain ⟨i1, i2, hd, -, hN, ⟨a1, a2, a3, a4⟩, ⟨b1, b2, b3, b4⟩⟩ := h
  have ua : hK u ao = 0 := c ao (by rw [a1]; decide) a3
  have ub : hK u dx = 0 := c dx (by rw [b1]; decide) b3
  obtain ⟨p1, p2, -⟩ := fr_out (w := w) a3 ua
  obtain ⟨r1, r2, -⟩ := fr_out (w := w) b3 ub
  exact ⟨fr_in, i2.frm hd c, fun a ha => c a (by rw [(i2 a ha).1]; exact ha) (hd a ha), ⟨hA, hV⟩, hN, ⟨p1.trans a1, p2.trans a2, ua, a4⟩, ⟨r1.trans b1, r2.trans b2, ub, b4⟩⟩
theorem LJ.mod (h : LJ w S1 S2 ad am q1 q2 ao dx) {u : HS} {am' : AM} {q' : AS} (hA : NA u am' (cn q' 1)) (hV : NV u am' q') (c : Cov S2 u w) : LJ (fr S2 u w) S1 u ad am' q1 q' ao dx := by
  obtain ⟨i1, i2, hd, hX, -, ⟨a1, a2, a3, a4⟩, ⟨b1, b2, b3, b4⟩⟩ := h
  have ua : hK u ao = 0 := c ao (by rw [a1]; decide) a4
  have ub : hK u dx = 0 := c dx (by rw [b1]; decide) b4
  have hd2 : ∀ a, hK S1 a ≠ 0 → hK S2 a = 0 := fun a ha => by
    by_cases h0 : hK S2 a = 0
    · exact h0
    · exact absurd (hd a h0) ha
  obtain ⟨p1, p2, -⟩ := fr_out (w := w) a4 ua
  obtain ⟨r1, r2, -⟩ := fr_out (w := w) b4 ub
  refine ⟨i1.frm hd2 c, fr_in, fun a ha => ?_, hX, ⟨hA, hV⟩, ⟨p1.trans a1, p2.trans a2, a3, ua⟩, ⟨r1.trans b1, r2.trans b2, b3, ub⟩⟩
  by_cases h0 : hK S1 a = 0
  · exact h0
  · exact absurd (c a (by rw [(i1 a h0).1]; exact h0) (hd2 a h0)) ha
theorem LJ.modJ (h : LJ w S1 S2 ad am q1 q2 ao dx) {u : HS} (c : Cov S2 u w) : aJ (fr S2 u w) ao = aJ w ao := (fr_out h.rao.2.2.2 (c ao (by rw [h.rao.1]; decide) h.rao.2.2.2)).2.2.2.2.2.2.2.1
theorem LJ.modD (h : LJ w S1 S2 ad am q1 q2 ao dx) {u : HS} (c : Cov S2 u w) : aD (fr S2 u w) dx = aD w dx := (fr_out h.rdx.2.2.2 (c dx (by rw [h.rdx.1]; decide) h.rdx.2.2.2)).2.2.2.2.2.2.2.2
theorem Inn.tJ {x w : HS} (h : Inn x w) {a j : Nat} {v : Int64} (ha : hK x a = 0) : Inn x (tJ w a j v) := fun b hb => by
  obtain ⟨p1, p2, p3, p4, p5, p6, p7, p8, p9⟩ := h b hb
  exact ⟨p1, p2, p3, p4, p5, p6, p7, (aJ_tJ2 (fun e => hb (by rw [e]; exact ha))).trans p8, p9⟩
theorem Inn.tD {x w : HS} (h : Inn x w) {a j : Nat} {v : UInt64} (ha : hK x a = 0) : Inn x (tD w a j v) := fun b hb => by
  obtain ⟨p1, p2, p3, p4, p5, p6, p7, p8, p9⟩ := h b hb
  exact ⟨p1, p2, p3, p4, p5, p6, p7, p8, (aD_tD2 (fun e => hb (by rw [e]; exact ha))).trans p9⟩
theorem LJ.rowJ (h : LJ w S1 S2 ad am q1 q2 ao dx) {v : Int64} : LJ (tJ w ao 0 v) S1 S2 ad am q1 q2 ao dx := ⟨h.i1.tJ h.rao.2.2.1, h.i2.tJ h.rao.2.2.2, h.2.2.1, h.2.2.2.1, h.2.2.2.2.1, h.rao, h.rdx⟩
theorem LJ.rowD (h : LJ w S1 S2 ad am q1 q2 ao dx) {v : UInt64} : LJ (tD w dx 0 v) S1 S2 ad am q1 q2 ao dx := ⟨h.i1.tD h.rdx.2.2.1, h.i2.tD h.rdx.2.2.2, h.2.2.1, h.2.2.2.1, h.2.2.2.2.1, h.rao, h.rdx⟩
end LJS
theorem thr_of (l : Launch) {u : HS} {am2 : AM} {n x : Nat} (hA : NA u am2 n) (e : am2 0 = x) : cM l yX5_thrown cX5_thrown 1 (Option.some Jvm.ClassFile.FieldType.int) 2 [.ref x] u (pI fun r v => hI u 61 x = r ∧ u = v) 0 0 := by
  have := c_X5_thrown l u am2 n (hI u 61 (am2 0)) hA rfl
  rw [e] at this
  exact this
theorem lg_cmp_rf (x : Int64) : lg_cmp x x = 0 := by
  unfold lg_cmp
  simp
theorem val_nn {a : UInt64} (h : FP.Core.dIsNaN a = false) : Op.cmpValue (FP.dcmp a a) CmpOp.l = 0 := by
  have h2 : FP.Core.val64 a ≠ .nan := fun z => by
    rw [(FP.Core.dIsNaN_iff a).mpr z] at h
    cases h
  rw [show FP.dcmp a a = some Ordering.eq from FP.Core.dcmp_self h2]
  rfl
theorem nn_fq {a b : Int32} (hb : b ≠ 0) : FP.Core.fIsNaN (FP.fdiv (FP.i2f a) (FP.i2f b)) = false := FP.Core.fdiv_out (fin_nn32 (FP.Core.i2f_fin a)) (FP.Core.i2f_fin b) (fun z => FP.Core.i2f_ne_zero hb ((FP.Core.zero_bits232 _).mp z))
theorem nn_dq {a b : Int32} (hb : b ≠ 0) : FP.Core.dIsNaN (FP.ddiv (FP.i2d a) (FP.i2d b)) = false := FP.Core.ddiv_out (fin_nn64 (FP.Core.i2d_fin a)) (FP.Core.i2d_fin b) (fun z => FP.Core.i2d_ne_zero hb ((FP.Core.zero_bits2 _).mp z))
theorem f2d_cv {x : UInt32} (h : FP.Core.fIsNaN x = false) : FP.Core.dIsNaN (FP.f2d x) = false := by
  have e : FP.f2d x = FP.Core.f2d x := by
    unfold FP.f2d
    rw [h]
    rfl
  rw [e]
  exact FP.Core.f2d_out h
theorem nn_vf {x : UInt64} (h : FP.Core.dIsNaN x = false) : vf_n64 x := by
  rw [FP.Core.notNaN_iff, FP.Core.ne_nan] at h
  exact and_mask64 _ h
section LAWV
variable {p : Program} {l : Launch} {e : Env} {R : Room} {s : State} {m : MethodId} {args : Array Value} {below : List Frame} {meth : Method} {c : Code} {cc : ByteArray} {nL : Nat} {own : String} {G : GT} {A : Nat → Prop} {S : HS} {k n : Nat} {Q : State → Prop} {pc : Nat} {lv lv' : List (Nat × Value)} {st : List Value}
/-- the script -/
theorem v_sld (C : Cx p l e R s m args below meth c cc nL own G A) {b L : Nat} {xs : Nat → Int32} (hX : va_X b L xs s s.heap) (hbl : b < s.heap.size) (hbA : ¬ A b) {i x : Int32} (hin : vp_in i L) (hx : xs i.toNatClampNeg = x) (hd : decode cc pc = .ok (.iaload, 1)) (kk : V p l e R s m args below meth c nL G A S k n Q (pc + 1) lv (.int x :: st)) : V p l e R s m args below meth c nL G A S k n Q pc lv (.int i :: .ref b :: st) := fun H locs ls hW hS hv => by
  subst hx
  exact va_sld C.1 C.2.1 hX hbl hbA hS hin hd (kk H locs ls hW hS hv)
theorem v_slen (C : Cx p l e R s m args below meth c cc nL own G A) {b L : Nat} {xs : Nat → Int32} (hX : va_X b L xs s s.heap) (hbl : b < s.heap.size) (hbA : ¬ A b) (hd : decode cc pc = .ok (.arraylength, 1)) (kk : V p l e R s m args below meth c nL G A S k n Q (pc + 1) lv (.int (Int32.ofNat L) :: st)) : V p l e R s m args below meth c nL G A S k n Q pc lv (.ref b :: st) := fun H locs ls hW hS hv =>
  va_slen C.1 C.2.1 hX hbl hbA hS hd (kk H locs ls hW hS hv)
theorem v_tsw (C : Cx p l e R s m args below meth c cc nL own G A) {dflt lo hi : Int} {offs : Array Int} {len : Nat} {x : Int32} {off : Int} (tgt : Nat) (h1 : ¬ x.toInt < lo) (h2 : ¬ hi < x.toInt) (ho : offs[(x.toInt - lo).toNat]? = some off) (ht : (pc : Int) + off = (tgt : Int)) (hd : decode cc pc = .ok (.tableswitch dflt lo hi offs, len)) (kk : V p l e R s m args below meth c nL G A S k n Q tgt lv st) : V p l e R s m args below meth c nL G A S k n Q pc lv (.int x :: st) := fun H locs ls hW hS hv =>
  lv_tableIn C.1 C.2.1 hd h1 h2 ho ht (kk H locs ls hW hS hv)
theorem v_tswd (C : Cx p l e R s m args below meth c cc nL own G A) {dflt lo hi : Int} {offs : Array Int} {len : Nat} {x : Int32} (tgt : Nat) (h : x.toInt < lo ∨ hi < x.toInt) (ht : (pc : Int) + dflt = (tgt : Int)) (hd : decode cc pc = .ok (.tableswitch dflt lo hi offs, len)) (kk : V p l e R s m args below meth c nL G A S k n Q tgt lv st) : V p l e R s m args below meth c nL G A S k n Q pc lv (.int x :: st) := fun H locs ls hW hS hv =>
  lv_tableOut C.1 C.2.1 hd h ht (kk H locs ls hW hS hv)
end LAWV
set_option maxRecDepth 100000 in
set_option maxHeartbeats 4000000 in
theorem c_X5_process0 (l : Launch) (S : HS) (am : AM) (q : AS) (hB : BI q) (hA : NA S am (cn q 1)) (hV : NV S am q) (hq0 : cn q 0 = 0)  : cM l yX5_process cX5_process 5 (Option.some Jvm.ClassFile.FieldType.int) 4 [.ref (am 0)] S (pI fun r u => FrN S u am ∧ hI u 61 (am 0) = 1) 0 0 := by
  refine cM_intro (by decide +kernel) cd_X5_process (Nat.le_of_ble_eq_true rfl) ?_
  intro pP eE sS mM aA bB tT cC G A C hRT hin
  refine V.lvs (lv2 := [(0, .ref (am 0))]) rfl ?_
  refine v_aload_n C 0 rfl rfl dX5_process_0 ?_
  refine v_aload_n C 0 rfl rfl dX5_process_1 ?_
  refine v_getI C (nI (cn q 0)) fl_RX5_111 hA.k0 hV.v50 dX5_process_2 ?_
  refine v_if_ne C 12 (by decide) dX5_process_5 (fun q => ((q (by rw [hq0]; rfl) : False)).elim) (fun c5 => ?_)
  refine v_iconst C 1 (by decide) dX5_process_8 ?_
  refine v_goto C 13 (by decide) dX5_process_9 ?_
  refine v_putI C fl_RX5_62 hA.k0 rfl rfl dX5_process_13 ?_
  refine v_aload_n C 0 rfl rfl dX5_process_16 ?_
  refine v_getI C 1 fl_RX5_62 hA.k0 hI_sI1 dX5_process_17 ?_
  refine v_if_le C 25 (by decide) dX5_process_20 (fun q => absurd q (by decide)) (fun _ => ?_)
  refine v_iconst C (-1) (by decide) dX5_process_23 ?_
  exact v_iret C hRT (Nat.le_of_ble_eq_true rfl) (Nat.le_of_ble_eq_true rfl) dX5_process_24 ⟨_, rfl, FrN.I, hI_sI1⟩
def R_process (q : AS) (κ : Int32) (v : Int32) (q' : AS) : Prop := (κ = 0 ∧ ¬ cn q 0 = 0 ∧ q' = prA q ∧ nI (TK q (cn q 0)) = v) ∨ (κ = 1 ∧ q' = q ∧ cn q 0 = 0)
theorem kc_process {S1 w w' : HS} {ad : AD} {q : AS} (hA : XA S1 ad (cn q 1)) (hV : XV S1 ad q) {sv : HS → Int32 → HS} {r : Int32} (h : hP (fun r u => cn q 0 ≠ 0 ∧ (∃ ad3 : AD, ad3 0 0 = ad 0 0 ∧ XA u ad3 (cn (prA q) 1) ∧ XV u ad3 (prA q)) ∧ nI (TK q (cn q 0)) = r) (fun E u => E = eIS ∧ S1 = u ∧ cn q 0 = 0) [eIS] S1 w sv r w') : ∃ (q' : AS) (v : Int32) (u : HS) (ad' : AD), R_process q r v q' ∧ XA u ad' (cn q' 1) ∧ XV u ad' q' ∧ ad' 0 0 = ad 0 0 ∧ Cov S1 u w ∧ ((r = 0 ∧ sv (fr S1 u w) v = w') ∨ (¬ r = 0 ∧ fr S1 u w = w')) := by
  rcases h with ⟨rfl, x, u, ⟨g0, ⟨ad3, e3, x3, v3⟩, hval⟩, hc, hw⟩ | ⟨j9, E, hj, rfl, u, hx, hc, hw⟩
  · exact ⟨_, x, _, ad3, Or.inl ⟨rfl, g0, rfl, hval⟩, x3, v3, e3, hc, Or.inl ⟨rfl, hw⟩⟩
  · match j9, hj with
    | 0, hj =>
      obtain ⟨-, rfl, g0⟩ := hx
      exact ⟨q, 0, _, ad, Or.inr ⟨rfl, rfl, g0⟩, hA, hV, rfl, hc, Or.inr ⟨by decide, hw⟩⟩
    | n9 + 1, hj => cases hj
theorem kf_process {q : AS} {κ κ2 : Int32} {v v2 : Int32} {q' q2 : AS} (h : R_process q κ v q') (h2 : R_process q κ2 v2 q2) : κ = κ2 ∧ q' = q2 ∧ (κ = 0 → v = v2) := by
  rcases h with ⟨a0, a1, a2, a3⟩ | ⟨a0, a1, a2⟩
  · rcases h2 with ⟨b0, b1, b2, b3⟩ | ⟨b0, b1, b2⟩
    · exact ⟨a0.trans b0.symm, a2.trans b2.symm, fun _ => a3.symm.trans b3⟩
    · exact absurd b2 a1
  · rcases h2 with ⟨b0, b1, b2, b3⟩ | ⟨b0, b1, b2⟩
    · exact absurd a2 b1
    · exact ⟨a0.trans b0.symm, a1.trans b1.symm, fun z => absurd (a0.symm.trans z) (by decide)⟩
/-- is there a report in the batch -/
def bF (q : AS) : Nat := if cn q 0 = 0 then 0 else 1
theorem bF_le (q : AS) : bF q ≤ 1 := by unfold bF; split <;> omega
theorem bF_pr (q : AS) : bF (prA q) = 0 := rfl
theorem bF_1 {q : AS} (h : ¬ cn q 0 = 0) : bF q = 1 := if_neg h
theorem bF_0 {q : AS} (h : cn q 0 = 0) : bF q = 0 := if_pos h
