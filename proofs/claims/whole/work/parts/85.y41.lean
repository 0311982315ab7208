/-! the law's beginning -/
theorem Inn.newA {x w : HS} (h : Inn x w) {q kd n : Nat} (hq : hK w q = 0) : Inn x (nA w q kd n) := fun a ha => by
  obtain ⟨p1, p2, p3, p4, p5, p6, p7, p8, p9⟩ := h a ha
  have hne : a ≠ q := fun e => ha (by rw [← p1, e]; exact hq)
  refine ⟨(hK_nA2 hne).trans p1, (hN_nA2 hne).trans p2, p3, p4, p5, ?_, ?_, ?_, ?_⟩
  · rw [← p6]; funext z; simp [aI, nA, ur, hne]
  · rw [← p7]; funext z; simp [aR, nA, ur, hne]
  · rw [← p8]; funext z; simp [aJ, nA, ur, hne]
  · rw [← p9]; funext z; simp [aD, nA, ur, hne]
/-- no kinds, all else as it is -/
def zk (u : HS) : HS := (fun _ => 0, u.2)
theorem zk_in {u : HS} {q kd : Nat} : Inn (nO (zk u) q kd) (nO u q kd) := fun a ha => by
  have e : a = q := by
    by_cases h : a = q
    · exact h
    · exact absurd ((hK_nO2 h).trans (rfl : hK (zk u) a = 0)) ha
  subst e
  exact ⟨hK_nO1.trans hK_nO1.symm, rfl, fun _ => rfl, fun _ => rfl, fun _ => rfl, rfl, rfl, rfl, rfl⟩
theorem nO_in {u : HS} {q kd : Nat} (hq : hK u q = 0) : Inn u (nO u q kd) := fun a ha => by
  have hne : a ≠ q := fun e => ha (by rw [e]; exact hq)
  refine ⟨hK_nO2 hne, rfl, fun f => ?_, fun f => ?_, fun f => ?_, rfl, rfl, rfl, rfl⟩ <;> simp [hR, hI, hJ, nO, uz, hne]
theorem start2 {u v w : HS} {q : Nat} (hq : hK u q = 0) (c : Cov (nO (zk u) q 6) v (nO u q 6)) (e : fr (nO (zk u) q 6) v (nO u q 6) = w) : Inn u w ∧ Inn v w ∧ (∀ a, hK v a ≠ 0 → hK u a = 0) := by
  subst e
  have hd : ∀ a, hK u a ≠ 0 → hK (nO (zk u) q 6) a = 0 := fun a ha => (hK_nO2 (fun e => ha (by rw [e]; exact hq))).trans rfl
  refine ⟨(nO_in hq).frm hd c, fr_in, fun a ha => ?_⟩
  by_cases h : hK u a = 0
  · exact h
  · exact absurd (c a (by rw [((nO_in (kd := 6) hq) a h).1]; exact h) (hd a h)) ha
theorem start3 {u v w : HS} {ad : AD} {am : AM} {q3 q4 : Nat} (i1 : Inn u w) (i2 : Inn v w) (hd : ∀ a, hK v a ≠ 0 → hK u a = 0) (hA : XA u ad 0) (hV : XV u ad q00) (nA9 : NA v am 0) (nV9 : NV v am q00) (h3 : hK w q3 = 0) (h4 : hK (nA w q3 12 1) q4 = 0) : LJ (nA (nA w q3 12 1) q4 18 1) u v ad am q00 q00 q3 q4 := by
  have h34 : q3 ≠ q4 := fun e => by
    rw [← e, hK_nA1] at h4
    exact absurd h4 (by decide)
  have w4 : hK w q4 = 0 := by
    rw [hK_nA2 h34.symm] at h4
    exact h4
  have z : ∀ {x : HS} {q : Nat}, Inn x w → hK w q = 0 → hK x q = 0 := fun {x q} i h => by
    by_cases h0 : hK x q = 0
    · exact h0
    · rw [(i q h0).1] at h
      exact absurd h h0
  exact ⟨(i1.newA h3).newA h4, (i2.newA h3).newA h4, hd, ⟨hA, hV⟩, ⟨nA9, nV9⟩, ⟨(hK_nA2 h34).trans hK_nA1, (hN_nA2 h34).trans hN_nA1, z i1 h3, z i2 h3⟩, ⟨hK_nA1, hN_nA1, z i1 w4, z i2 w4⟩⟩
theorem wd_0 {G : GT} {A : Nat → Prop} {H : Heap} : Wd G A hs0 H := ⟨[], fun k q h => by simp at h, ⟨fun i j p q h => by simp at h, fun k q h => by simp at h⟩, fun b e => ⟨fun h => (by
  have h0 : cE G hs0 b = none := if_pos rfl
  rw [h0] at h
  cases h), fun ⟨j, hj⟩ => (by simp at hj)⟩⟩
theorem ac_long9 : Cond.arrayClass (newarray.typeOf .long) ∈ wsG := wsG_in 117 (by decide +kernel) (by decide +kernel)
theorem ac_dbl9 : Cond.arrayClass (newarray.typeOf .double) ∈ wsG := wsG_in 1202 (by decide +kernel) (by decide +kernel)
section BEG
variable {p : Program} {l : Launch} {e : Env} {R : Room} {s : State} {m : MethodId} {args : Array Value} {below : List Frame} {meth : Method} {c : Code} {cc : ByteArray} {nL : Nat} {own : String} {G : GT} {A : Nat → Prop} {S : HS} {k n : Nat} {Q : State → Prop} {pc : Nat} {lv lv' : List (Nat × Value)} {st : List Value}
theorem v_callIX (C : Cx p l e R s m args below meth c cc nL own G A) (hao : aoW s) {idx b : Nat} {y : MethodName} {cb : ByteArray} {maxL : Nat} {nargs d mc ms : Nat} {f : HS → Prop} (as : List Value) (hM : cI l y cb maxL d (.ref b :: as) S (pV f) mc ms) (hL : ML own idx y cb maxL none nargs) (hL2 : Cond.instanceMethod y ∈ wsG) (hy1 : y.name = "<init>") (hn : as.length = nargs) (hst : (st.map fun v => v.category).sum ≤ 8) (hfr : d + 1 ≤ R.frames) (hlo : 8 + (maxL + 11) + 40 * d ≤ R.locals) (hcl : k + mc ≤ R.cells) (hsl : n + ms ≤ R.slots) (hd : decode cc pc = .ok (.invokespecial idx, 3)) (kk : ∀ (u : HS), f u → V p l e R s m args below meth c nL G A u (k + mc) (n + ms) Q (pc + 3) lv st) (st0 : List Value) (hst0 : st0 = as.reverse ++ .ref b :: st) : V p l e R s m args below meth c nL G A S k n Q pc lv st0 := by
  intro H locs ls hW hS hv
  subst hst0
  have hfr9 := C.fr hW hS
  refine g_call (va_runI (As := as) (rest := st) C.fix (hM G H.size) ⟨hL.callB C hfr hlo, hy1, C.2.2.2.2.1 _ hL2⟩ (C.preX hao hW hS (.ref b :: as)) rfl hn hv.1 rfl (lv_room hst) hd ⟨hcl, hsl⟩) hS (fun q _ h => hfr9 q h) hfr9 (fun v u t H1 locs1 ht _ hp hB _ _ hS1 => ?_)
  obtain ⟨rfl, hp⟩ := hp
  subst ht
  exact kk u hp _ locs1 ls (hB.1.weaken (fun q hq => hfr9 q (hB.1.dom hq).1)) hS1 hv
end BEG
set_option maxRecDepth 100000 in
set_option maxHeartbeats 4000000 in
theorem lw_begin {l : Launch} {pP : Program} {eE : Env} {sS : State} {mM : MethodId} {aA : Array Value} {bB : List Frame} {tT : Method} {cC : Code} {G : GT} {A : Nat → Prop} {Q : State → Prop} (hlf : l.stackTraces = false) (C : Cx pP l eE room_1 sS mM aA bB tT cC cL_law 9 RL G A) (hao : aoW sS) {b L : Nat} {xs : Nat → Int32} (hL : L ≤ 2560) (hX : va_X b L xs sS sS.heap) (hbl : b < sS.heap.size) (hbA : ¬ A b) (kkE : ∀ (x1 x2 ao dx : Nat) (w : HS) (iv : Int32) (k n : Nat), k ≤ 603072 → n ≤ 7207018 → V pP l eE room_1 sS mM aA bB tT cC 9 G A w k n Q 1975 [(5, .int iv), (4, .ref dx), (3, .ref ao), (2, .ref x2), (1, .ref x1), (0, .ref b)] []) : V pP l eE room_1 sS mM aA bB tT cC 9 G A hs0 0 0 Q 0 [(0, .ref b)] [] := by
  refine v_new C nl_RL_8 (by show 0 + 1 ≤ 603072; omega) (by show 0 + 13 ≤ 7207018; omega) dL_law_0 (fun q1 hq1 => ?_)
  refine v_dup C rfl dL_law_3 ?_
  refine v_callIX C hao (st := [.ref q1]) [] (c_X4_init l hs0 q1 hq1) ml_RL_110 mii_yX4_init rfl rfl (Nat.le_of_ble_eq_true rfl) (Nat.le_of_ble_eq_true rfl) (Nat.le_of_ble_eq_true rfl) (by show 0 + 1 + 20 ≤ 603072; omega) (by show 0 + 13 + 150 ≤ 7207018; omega) dL_law_4 (fun u h => ?_) _ rfl
  obtain ⟨ad, ha, hXA, hXV, -⟩ := h
  refine v_astore_n C [(1, .ref q1), (0, .ref b)] (by decide) rfl rfl dL_law_7 ?_
  refine v_new C nl_RL_111 (by show 0 + 1 + 20 + 1 ≤ 603072; omega) (by show 0 + 13 + 150 + 22 ≤ 7207018; omega) dL_law_8 (fun q2 hq2 => ?_)
  refine v_dup C rfl dL_law_11 ?_
  refine v_callIX C hao (st := [.ref q2]) [] ((c_X5_init l (zk u) q2 rfl).frmV zk_in) ml_RL_113 mii_yX5_init rfl rfl (Nat.le_of_ble_eq_true rfl) (Nat.le_of_ble_eq_true rfl) (Nat.le_of_ble_eq_true rfl) (by show 0 + 1 + 20 + 1 + 11 ≤ 603072; omega) (by show 0 + 13 + 150 + 22 + 702 ≤ 7207018; omega) dL_law_12 (fun w h => ?_) _ rfl
  obtain ⟨v, ⟨am, hm, hNA, hNV, -, -⟩, hcv, hw⟩ := h
  obtain ⟨i1, i2, hd⟩ := start2 hq2 hcv hw
  refine v_astore_n C [(2, .ref q2), (1, .ref q1), (0, .ref b)] (by decide) rfl rfl dL_law_15 ?_
  refine v_iconst C 1 (by decide) dL_law_16 ?_
  refine v_newa C (kd := 12) 1 (Or.inr (Or.inr (Or.inl ⟨rfl, rfl⟩))) ac_long9 (by decide) (by decide) (by decide) (by show 0 + 1 + 20 + 1 + 11 + 1 ≤ 603072; omega) (by show 0 + 13 + 150 + 22 + 702 + 1 ≤ 7207018; omega) dL_law_17 (fun q3 hq3 => ?_)
  refine v_astore_n C [(3, .ref q3), (2, .ref q2), (1, .ref q1), (0, .ref b)] (by decide) rfl rfl dL_law_19 ?_
  refine v_iconst C 1 (by decide) dL_law_20 ?_
  refine v_newa C (kd := 18) 1 (Or.inr (Or.inr (Or.inr ⟨rfl, rfl⟩))) ac_dbl9 (by decide) (by decide) (by decide) (by show 0 + 1 + 20 + 1 + 11 + 1 + 1 ≤ 603072; omega) (by show 0 + 13 + 150 + 22 + 702 + 1 + 1 ≤ 7207018; omega) dL_law_21 (fun q4 hq4 => ?_)
  refine v_astore C [(4, .ref q4), (3, .ref q3), (2, .ref q2), (1, .ref q1), (0, .ref b)] (by decide) rfl dL_law_23 ?_
  refine v_iconst C 0 (by decide) dL_law_25 ?_
  refine v_istore C [(5, .int 0), (4, .ref q4), (3, .ref q3), (2, .ref q2), (1, .ref q1), (0, .ref b)] (by decide) rfl dL_law_26 ?_
  refine V.lvs (lv2 := [(5, .int (nI (5 * 0))), (4, .ref q4), (3, .ref q3), (2, .ref q2), (1, .ref q1), (0, .ref b)]) rfl ?_
  exact lw_loop hlf C hL hX hbl hbA q1 q2 q3 q4 (kkE q1 q2 q3 q4) (L + 1) 0 0 _ u v ad am q00 _ _ (by omega) (by omega) (Nat.le_refl 0) (start3 i1 i2 hd hXA hXV hNA hNV hq3 hq4) ha hm q00_INV (by omega) (by omega)
