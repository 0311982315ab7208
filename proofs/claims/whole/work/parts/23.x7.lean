section LEM2
variable {p : Program} {l : Launch} {e : Env} {R : Room} {s : State} {m : MethodId} {args : Array Value} {below : List Frame} {meth : Method} {c : Code} {cc : ByteArray} {nL : Nat} {own : String} {G : GT} {A : Nat → Prop} {S : HS} {k n : Nat} {Q : State → Prop} {pc : Nat} {lv lv' : List (Nat × Value)} {st : List Value}
theorem v_minL (C : Cx p l e R s m args below meth c cc nL own G A) {idx : Nat} {x y : Int64} (hJ : JM own idx Lib.MathLoose.min_long.x Lib.MathLoose.min_long.code 4 (some .long)) (hRf : 1 ≤ R.frames) (hst : (st.map fun v => v.category).sum ≤ 8) (hRl : 23 ≤ R.locals) (hkc : k ≤ R.cells) (hns : n ≤ R.slots) (hd : decode cc pc = .ok (.invokestatic idx, 3)) (kk : V p l e R s m args below meth c nL G A (S) (k) (n) Q (pc + 3) (lv) (.long (if y < x then y else x) :: st)) : V p l e R s m args below meth c nL G A (S) (k) (n) Q (pc) (lv) (.long y :: .long x :: st) := fun H locs ls hW hS hv =>
  va_mmin_long C.1 C.2.1 (C.2.2.1.trans hv.1.symm) C.2.2.2.1 (C.2.2.2.2.1 _ hJ.1) (C.2.2.2.2.1 _ hJ.2.1) (C.2.2.2.2.1 _ hJ.2.2.1) (C.2.2.2.2.1 _ hJ.2.2.2) hRf (by omega) hkc hns hd (kk H locs ls hW hS hv)
theorem v_maxL (C : Cx p l e R s m args below meth c cc nL own G A) {idx : Nat} {x y : Int64} (hJ : JM own idx Lib.MathLoose.max_long.x Lib.MathLoose.max_long.code 4 (some .long)) (hRf : 1 ≤ R.frames) (hst : (st.map fun v => v.category).sum ≤ 8) (hRl : 23 ≤ R.locals) (hkc : k ≤ R.cells) (hns : n ≤ R.slots) (hd : decode cc pc = .ok (.invokestatic idx, 3)) (kk : V p l e R s m args below meth c nL G A (S) (k) (n) Q (pc + 3) (lv) (.long (if y < x then x else y) :: st)) : V p l e R s m args below meth c nL G A (S) (k) (n) Q (pc) (lv) (.long y :: .long x :: st) := fun H locs ls hW hS hv =>
  va_mmax_long C.1 C.2.1 (C.2.2.1.trans hv.1.symm) C.2.2.2.1 (C.2.2.2.2.1 _ hJ.1) (C.2.2.2.2.1 _ hJ.2.1) (C.2.2.2.2.1 _ hJ.2.2.1) (C.2.2.2.2.1 _ hJ.2.2.2) hRf (by omega) hkc hns hd (kk H locs ls hW hS hv)
end LEM2
theorem jl_RX4_226 : JM RX4 226 Lib.MathLoose.min_long.x Lib.MathLoose.min_long.code 4 (some .long) := ⟨wsG_in 298 (by decide +kernel) (by decide +kernel), wsG_in 299 (by decide +kernel) (by decide +kernel), wsG_in 57 (by decide +kernel) (by decide +kernel), wsG_in 300 (by decide +kernel) (by decide +kernel)⟩
theorem jl_RX5_151 : JM RX5 151 Lib.MathLoose.min_long.x Lib.MathLoose.min_long.code 4 (some .long) := ⟨wsG_in 1047 (by decide +kernel) (by decide +kernel), wsG_in 299 (by decide +kernel) (by decide +kernel), wsG_in 57 (by decide +kernel) (by decide +kernel), wsG_in 300 (by decide +kernel) (by decide +kernel)⟩
theorem jl_RX5_155 : JM RX5 155 Lib.MathLoose.max_long.x Lib.MathLoose.max_long.code 4 (some .long) := ⟨wsG_in 1048 (by decide +kernel) (by decide +kernel), wsG_in 1049 (by decide +kernel) (by decide +kernel), wsG_in 57 (by decide +kernel) (by decide +kernel), wsG_in 1050 (by decide +kernel) (by decide +kernel)⟩
/-- the least of a best and a cost -/
def mo (o : Option OC) (z : Int) : Int := match o with
  | none => z
  | some b => if z < b.1 then z else b.1
theorem mo_b (o : Option OC) (c : OC) : (better o c).1 = mo o c.1 := by
  cases o with
  | none => rfl
  | some b =>
    show (if c.1 < b.1 then c else b).1 = if c.1 < b.1 then c.1 else b.1
    split <;> rfl
theorem mo_s (o : Option OC) (c : OC) (z : Int) : mo (some (better o c)) z = if c.1 < mo o z then c.1 else mo o z := by
  show (if z < (better o c).1 then z else (better o c).1) = _
  rw [mo_b]
  unfold mo
  cases o with
  | none => dsimp only; split <;> split <;> omega
  | some b => dsimp only; repeat' split
              all_goals omega
theorem optF_some {cm : Nat → Nat → Int} {r : Nat} {us : Nat → Bool} {sub : Nat → OC} {i : Nat} (h : 0 ≤ cm r i ∧ us i = false) : optF cm r us sub (i + 1) = some (better (optF cm r us sub i) (cm r i + (sub i).1, fup (sub i).2 r i)) := by
  show (if _ then _ else _) = _
  rw [if_pos h]
theorem optF_skip {cm : Nat → Nat → Int} {r : Nat} {us : Nat → Bool} {sub : Nat → OC} {i : Nat} (h : ¬ (0 ≤ cm r i ∧ us i = false)) : optF cm r us sub (i + 1) = optF cm r us sub i := by
  show (if _ then _ else _) = _
  rw [if_neg h]
/-- what 'leastCostFrom' owes with k reports left -/
def LcOK (l : Launch) (ad : AD) (n nr lc : Nat) (cm : Nat → Nat → Int) (g : Int) (k : Nat) : Prop := ∀ (S : HS) (us : Nat → Bool) (m0 : Nat), XA S ad n → XN S ad nr lc cm g → m0 < 64 → (∀ i, i < lc → m0.testBit i = us i) → cM l yX4_leastCostFrom cX4_leastCostFrom 8 (Option.some Jvm.ClassFile.FieldType.long) (8 + k) [.ref (ad 8 0), .int (nI (nr - k)), .int (nI m0)] S (pL fun r u => lO (opt cm g lc nr k us).1 = r ∧ S = u) 0 0
theorem sub_bd {nr lc : Nat} {cm : Nat → Nat → Int} {g : Int} (h : CMok nr lc cm g) {k : Nat} (hk : k ≤ nr) (us : Nat → Bool) : bd (opt cm g lc nr k us).1 0 256000000 := by
  have h1 := opt_nn (cm := cm) (N := lc) (nr := nr) h.2.2.1.1 k us
  have h2 := opt_le (cm := cm) (g := g) (N := lc) (nr := nr) k us
  have h3 : (k : Int) * g ≤ 4 * 64000000 := Int.mul_le_mul (by have := h.1; omega) h.2.2.1.2 h.2.2.1.1 (by decide)
  unfold bd
  omega
theorem mo_bd {nr lc : Nat} {cm : Nat → Nat → Int} {g : Int} (h : CMok nr lc cm g) {k : Nat} (hk : k + 1 ≤ nr) (us : Nat → Bool) : ∀ i, bd (mo (optF cm (nr - (k + 1)) us (fun i => opt cm g lc nr k (bup us i)) i) (g + (opt cm g lc nr k us).1)) 0 400000000 := by
  have hs := sub_bd h (by omega : k ≤ nr) us
  have hg := h.2.2.1
  intro i
  induction i with
  | zero => show bd (g + _) _ _; unfold bd at *; omega
  | succ i ih =>
    by_cases hc : 0 ≤ cm (nr - (k + 1)) i ∧ us i = false
    · rw [optF_some hc, mo_s]
      have hs2 := sub_bd h (by omega : k ≤ nr) (bup us i)
      have hp : 0 ≤ cm (nr - (k + 1)) i + (opt cm g lc nr k (bup us i)).1 := by have := hc.1; unfold bd at *; omega
      dsimp only
      split
      · unfold bd at *; omega
      · exact ih
    · rw [optF_skip hc]
      exact ih
set_option maxRecDepth 100000 in
set_option maxHeartbeats 4000000 in
theorem c_X4_leastCostFrom0 (l : Launch) (S : HS) (ad : AD) (n nr lc : Nat) (cm : Nat → Nat → Int) (g : Int) (us : Nat → Bool) (m0 : Nat) (hCM : CMok nr lc cm g) (hA : XA S ad n) (hX : XN S ad nr lc cm g) (hm6 : m0 < 64) (hus : ∀ i, i < lc → m0.testBit i = us i) : cM l yX4_leastCostFrom cX4_leastCostFrom 8 (Option.some Jvm.ClassFile.FieldType.long) (8 + 0) [.ref (ad 8 0), .int (nI (nr - 0)), .int (nI m0)] S (pL fun r u => lO (opt cm g lc nr 0 us).1 = r ∧ S = u) 0 0 := by
  refine cM_intro (by decide +kernel) cd_X4_leastCostFrom (Nat.le_of_ble_eq_true rfl) ?_
  intro pP eE sS mM aA bB tT cC G A C hRT hin
  refine V.lvs (lv2 := [(0, .ref (ad 8 0)), (1, .int (nI (nr - 0))), (2, .int (nI m0))]) rfl ?_
  refine v_iload_n C 1 rfl rfl dX4_leastCostFrom_0 ?_
  refine v_if_lt C 17 (by decide) dX4_leastCostFrom_1 (fun q => (nI_pos (by have := hCM.1; omega) q).elim) (fun c1 => ?_)
  refine v_iload_n C 1 rfl rfl dX4_leastCostFrom_4 ?_
  refine v_aload_n C 0 rfl rfl dX4_leastCostFrom_5 ?_
  refine v_getI C (nI nr) fl_RX4_211 hA.k8 hX.1 dX4_leastCostFrom_6 ?_
  refine v_icmp_ge C 17 (by decide) dX4_leastCostFrom_9 (fun c9 => ?_) (fun q => (q (nI_le (by omega) (by have := hCM.1; omega))).elim)
  refine v_lconst C 0 (by decide) dX4_leastCostFrom_17 ?_
  exact v_lret C hRT (Nat.le_of_ble_eq_true rfl) (Nat.le_of_ble_eq_true rfl) dX4_leastCostFrom_18 ⟨_, rfl, rfl, rfl⟩
theorem minL_O {a b : Int} (hb : bd b 0 400000000) (ha : bd a 0 400000000) : (if lO a < lO b then lO a else lO b) = lO (if a < b then a else b) := by
  have h := lO_lt (a := a) (b := b) (by unfold bd at *; omega) (by unfold bd at *; omega) (by unfold bd at *; omega) (by unfold bd at *; omega)
  by_cases c : a < b
  · rw [if_pos c, if_pos (h.mpr c)]
  · rw [if_neg c, if_neg (fun z => c (h.mp z))]
set_option maxRecDepth 100000 in
set_option maxHeartbeats 4000000 in
theorem lp_X4_leastCostFrom {l : Launch} {pP : Program} {eE : Env} {sS : State} {mM : MethodId} {aA : Array Value} {bB : List Frame} {tT : Method} {cC : Code} {G : GT} {A : Nat → Prop} {Q : State → Prop}  (S : HS) (ad : AD) (n nr lc : Nat) (cm : Nat → Nat → Int) (g : Int) (k : Nat) (hk1 : k + 1 ≤ nr) (IH : LcOK l ad n nr lc cm g k) (us : Nat → Bool) (m0 : Nat) (hCM : CMok nr lc cm g) (hA : XA S ad n) (hX : XN S ad nr lc cm g) (hm6 : m0 < 64) (hus : ∀ i, i < lc → m0.testBit i = us i) (C : Cx pP l eE (rmD (8 + (k + 1)) 0 0) sS mM aA bB tT cC cX4_leastCostFrom 8 RX4 G A) (kk : V pP l eE (rmD (8 + (k + 1)) 0 0) sS mM aA bB tT cC 8 G A S 0 0 Q 108 [(0, .ref (ad 8 0)), (1, .int (nI (nr - (k + 1)))), (2, .int (nI m0)), (3, .long (lO (mo (optF cm (nr - (k + 1)) us (fun i => opt cm g lc nr k (bup us i)) lc) (g + (opt cm g lc nr k us).1)))), (5, .int (nI lc))] []) : ∀ (N : Nat) (i : Nat), (hN9 : lc + 1 ≤ i + N) → (hi : i ≤ lc) → V pP l eE (rmD (8 + (k + 1)) 0 0) sS mM aA bB tT cC 8 G A S 0 0 Q 36 [(0, .ref (ad 8 0)), (1, .int (nI (nr - (k + 1)))), (2, .int (nI m0)), (3, .long (lO (mo (optF cm (nr - (k + 1)) us (fun i => opt cm g lc nr k (bup us i)) i) (g + (opt cm g lc nr k us).1)))), (5, .int (nI i))] [] := by
  intro N
  induction N with
  | zero =>
    intro i hN9 hi
    exact absurd hN9 (by omega)
  | succ N ih =>
    intro i hN9 hi
    have hn4 := hCM.1
    have hl6 := hCM.2.1
    refine v_iload C 4 rfl dX4_leastCostFrom_36 ?_
    refine v_aload_n C 0 rfl rfl dX4_leastCostFrom_38 ?_
    refine v_getI C (nI lc) fl_RX4_201 hA.k8 hX.2.1 dX4_leastCostFrom_39 ?_
    refine v_icmp_ge C 108 (by decide) dX4_leastCostFrom_42 (fun c42 => ?_) (fun c42 => ?_)
    · obtain rfl : i = lc := by have := nge c42 (by omega); omega
      exact V.sub [0, 1, 2, 3, 4] rfl kk
    · have hlt := nlt c42 (by omega)
      refine v_iload C 4 rfl dX4_leastCostFrom_45 ?_
      refine v_bipush C 6 (by decide) dX4_leastCostFrom_47 ?_
      refine v_icmp_ge C 108 (by decide) dX4_leastCostFrom_49 (fun q => (nI_ge (a := i) (b := 6) (by omega) (by decide) q).elim) (fun c49 => ?_)
      refine v_aload_n C 0 rfl rfl dX4_leastCostFrom_52 ?_
      refine v_getR C (ad 10 0) fl_RX4_215 hA.k8 hA.r8 dX4_leastCostFrom_53 ?_
      refine v_iload_n C 1 rfl rfl dX4_leastCostFrom_56 ?_
      refine v_aald C (some (ad 11 (nr - (k + 1)))) (klt hA.k10 (by decide)) (kgt hA.k10 (by decide)) (by rw [hA.n10]; exact vp_in_nI (by omega) (by decide)) ((congrArg _ (nI_clamp (by omega))).trans (hA.a10 _ (by omega))) dX4_leastCostFrom_57 ?_
      refine v_iload C 4 rfl dX4_leastCostFrom_58 ?_
      refine v_lald C (lO (cm (nr - (k + 1)) i)) (hA.k11 (nr - (k + 1)) (by omega)) (by rw [hA.n11 _ (by omega)]; exact vp_in_nI (by omega) (by decide)) ((congrArg _ (nI_clamp (by omega))).trans (hX.2.2.2 _ (by omega) i hlt)) dX4_leastCostFrom_60 ?_
      refine v_lstore C [(6, .long (lO (cm (nr - (k + 1)) i))), (0, .ref (ad 8 0)), (1, .int (nI (nr - (k + 1)))), (2, .int (nI m0)), (3, .long (lO (mo (optF cm (nr - (k + 1)) us (fun i => opt cm g lc nr k (bup us i)) i) (g + (opt cm g lc nr k us).1)))), (5, .int (nI i))] (by decide) rfl dX4_leastCostFrom_61 ?_
      refine v_lload C 0 rfl dX4_leastCostFrom_63 ?_
      refine v_ldc2 C kl_RX4_145 dX4_leastCostFrom_65 ?_
      refine v_lcmp C dX4_leastCostFrom_68 ?_
      refine v_if_eq C 102 (by decide) dX4_leastCostFrom_69 (fun c69 => ?_) (fun c69 => ?_)
      · refine v_iinc C (nI (i + 1)) 5 [(5, .int (nI (i + 1))), (6, .long (lO (cm (nr - (k + 1)) i))), (0, .ref (ad 8 0)), (1, .int (nI (nr - (k + 1)))), (2, .int (nI m0)), (3, .long (lO (mo (optF cm (nr - (k + 1)) us (fun i => opt cm g lc nr k (bup us i)) i) (g + (opt cm g lc nr k us).1))))] rfl (by rw [← nI_1]; rfl) (by decide) rfl dX4_leastCostFrom_102 ?_
        refine v_goto C 36 (by decide) dX4_leastCostFrom_105 ?_
        refine V.sub [2, 3, 4, 5, 0] rfl ?_
        have key := ih (i + 1) (by omega) (by omega)
        rw [optF_skip (fun z => absurd z.1 (by rw [cm_m1 (hCM.2.2.2 (nr - (k + 1)) (by omega) i hlt) c69]; decide))] at key
        exact key
      · have hcm0 : 0 ≤ cm (nr - (k + 1)) i := by rcases hCM.2.2.2 (nr - (k + 1)) (by omega) i hlt with z | z; exact absurd ((lg_cmp_eq _ _).mpr (by rw [z]; rfl)) c69; exact z.1
        refine v_iload_n C 3 rfl rfl dX4_leastCostFrom_72 ?_
        refine v_iload C 5 rfl dX4_leastCostFrom_73 ?_
        refine v_ishr C dX4_leastCostFrom_75 ?_
        refine v_iconst C 1 (by decide) dX4_leastCostFrom_76 ?_
        refine v_iand C dX4_leastCostFrom_77 ?_
        refine v_if_ne C 102 (by decide) dX4_leastCostFrom_78 (fun c78 => ?_) (fun c78 => ?_)
        · refine v_iinc C (nI (i + 1)) 5 [(5, .int (nI (i + 1))), (6, .long (lO (cm (nr - (k + 1)) i))), (0, .ref (ad 8 0)), (1, .int (nI (nr - (k + 1)))), (2, .int (nI m0)), (3, .long (lO (mo (optF cm (nr - (k + 1)) us (fun i => opt cm g lc nr k (bup us i)) i) (g + (opt cm g lc nr k us).1))))] rfl (by rw [← nI_1]; rfl) (by decide) rfl dX4_leastCostFrom_102 ?_
          refine v_goto C 36 (by decide) dX4_leastCostFrom_105 ?_
          rw [bitS m0 hm6 i (by omega)] at c78
          have hus1 : us i = true := by rw [← hus i hlt]; exact bI_n0 c78
          refine V.sub [2, 3, 4, 5, 0] rfl ?_
          have key := ih (i + 1) (by omega) (by omega)
          rw [optF_skip (fun z => by rw [hus1] at z; exact absurd z.2 (by decide))] at key
          exact key
        · have hus0 : us i = false := by rw [bitS m0 hm6 i (by omega)] at c78; rw [← hus i hlt]; exact Bool.eq_false_iff.mpr (bI_e0 c78)
          refine v_lload_n C 4 rfl rfl dX4_leastCostFrom_81 ?_
          refine v_lload C 0 rfl dX4_leastCostFrom_82 ?_
          refine v_aload_n C 1 rfl rfl dX4_leastCostFrom_84 ?_
          refine v_iload_n C 2 rfl rfl dX4_leastCostFrom_85 ?_
          refine v_iconst C 1 (by decide) dX4_leastCostFrom_86 ?_
          refine v_iadd C dX4_leastCostFrom_87 ?_
          refine v_iload_n C 3 rfl rfl dX4_leastCostFrom_88 ?_
          refine v_iconst C 1 (by decide) dX4_leastCostFrom_89 ?_
          refine v_iload C 5 rfl dX4_leastCostFrom_90 ?_
          refine v_ishl C dX4_leastCostFrom_92 ?_
          refine v_ior C dX4_leastCostFrom_93 ?_
          rw [nr_1 hk1]
          obtain ⟨hbo, hb64⟩ := bitO m0 hm6 i (by omega)
          rw [hbo]
          have hub : ∀ j, j < lc → (m0 ||| 2 ^ i).testBit j = bup us i j := by
            intro j hj
            rw [bitT m0 hm6 i (by omega) j (by omega)]
            unfold bup
            split
            · rfl
            · exact hus j hj
          refine v_callSl C (st := [.long (lO (cm (nr - (k + 1)) i)), .long (lO (mo (optF cm (nr - (k + 1)) us (fun i => opt cm g lc nr k (bup us i)) i) (g + (opt cm g lc nr k us).1)))]) [.ref (ad 8 0), .int (nI (nr - k)), .int (nI (m0 ||| 2 ^ i))] (IH S (bup us i) (m0 ||| 2 ^ i) hA hX hb64 hub) ml_RX4_154 ms_yX4_leastCostFrom rfl (Nat.le_of_ble_eq_true rfl) (by show 8 + k + 1 ≤ 8 + (k + 1); omega) (by show 8 + (8 + 11) + 40 * (8 + k) ≤ 40 * (8 + (k + 1)); omega) (Nat.le_of_ble_eq_true rfl) (Nat.le_of_ble_eq_true rfl) dX4_leastCostFrom_94 (fun r u h => ?_) _ rfl
          obtain ⟨rfl, rfl⟩ := h
          refine v_ladd C dX4_leastCostFrom_97 ?_
          refine v_minL C jl_RX4_226 (Nat.le_of_ble_eq_true rfl) (Nat.le_of_ble_eq_true rfl) (Nat.le_of_ble_eq_true rfl) (Nat.le_of_ble_eq_true rfl) (Nat.le_of_ble_eq_true rfl) dX4_leastCostFrom_98 ?_
          refine v_lstore_n C [(3, .long (if ((lO (cm (nr - (k + 1)) i)) + (lO (opt cm g lc nr k (bup us i)).1)) < (lO (mo (optF cm (nr - (k + 1)) us (fun i => opt cm g lc nr k (bup us i)) i) (g + (opt cm g lc nr k us).1))) then ((lO (cm (nr - (k + 1)) i)) + (lO (opt cm g lc nr k (bup us i)).1)) else (lO (mo (optF cm (nr - (k + 1)) us (fun i => opt cm g lc nr k (bup us i)) i) (g + (opt cm g lc nr k us).1))))), (6, .long (lO (cm (nr - (k + 1)) i))), (0, .ref (ad 8 0)), (1, .int (nI (nr - (k + 1)))), (2, .int (nI m0)), (5, .int (nI i))] (by decide) rfl rfl dX4_leastCostFrom_101 ?_
          refine v_iinc C (nI (i + 1)) 5 [(5, .int (nI (i + 1))), (3, .long (if ((lO (cm (nr - (k + 1)) i)) + (lO (opt cm g lc nr k (bup us i)).1)) < (lO (mo (optF cm (nr - (k + 1)) us (fun i => opt cm g lc nr k (bup us i)) i) (g + (opt cm g lc nr k us).1))) then ((lO (cm (nr - (k + 1)) i)) + (lO (opt cm g lc nr k (bup us i)).1)) else (lO (mo (optF cm (nr - (k + 1)) us (fun i => opt cm g lc nr k (bup us i)) i) (g + (opt cm g lc nr k us).1))))), (6, .long (lO (cm (nr - (k + 1)) i))), (0, .ref (ad 8 0)), (1, .int (nI (nr - (k + 1)))), (2, .int (nI m0))] rfl (by rw [← nI_1]; rfl) (by decide) rfl dX4_leastCostFrom_102 ?_
          refine v_goto C 36 (by decide) dX4_leastCostFrom_105 ?_
          refine V.sub [3, 4, 5, 1, 0] rfl ?_
          have key := ih (i + 1) (by omega) (by omega)
          rw [optF_some ⟨hcm0, hus0⟩, mo_s] at key
          have hmb := mo_bd hCM hk1 us i
          have hsb := sub_bd hCM (by omega : k ≤ nr) (bup us i)
          have hcb : bd (cm (nr - (k + 1)) i) 0 64000000 := by have := hCM.2.2.2 (nr - (k + 1)) (by omega) i hlt; unfold bd at *; omega
          have e := minL_O (a := cm (nr - (k + 1)) i + (opt cm g lc nr k (bup us i)).1) hmb (by unfold bd at *; omega)
          rw [lO_add, e]
          exact key
set_option maxRecDepth 100000 in
set_option maxHeartbeats 4000000 in
theorem c_X4_leastCostFromS (l : Launch) (S : HS) (ad : AD) (n nr lc : Nat) (cm : Nat → Nat → Int) (g : Int) (k : Nat) (hk1 : k + 1 ≤ nr) (IH : LcOK l ad n nr lc cm g k) (us : Nat → Bool) (m0 : Nat) (hCM : CMok nr lc cm g) (hA : XA S ad n) (hX : XN S ad nr lc cm g) (hm6 : m0 < 64) (hus : ∀ i, i < lc → m0.testBit i = us i) : cM l yX4_leastCostFrom cX4_leastCostFrom 8 (Option.some Jvm.ClassFile.FieldType.long) (8 + (k + 1)) [.ref (ad 8 0), .int (nI (nr - (k + 1))), .int (nI m0)] S (pL fun r u => lO (opt cm g lc nr (k + 1) us).1 = r ∧ S = u) 0 0 := by
  refine cM_intro (by decide +kernel) cd_X4_leastCostFrom (Nat.le_of_ble_eq_true rfl) ?_
  intro pP eE sS mM aA bB tT cC G A C hRT hin
  refine V.lvs (lv2 := [(0, .ref (ad 8 0)), (1, .int (nI (nr - (k + 1)))), (2, .int (nI m0))]) rfl ?_
  have hn4 := hCM.1
  refine v_iload_n C 1 rfl rfl dX4_leastCostFrom_0 ?_
  refine v_if_lt C 17 (by decide) dX4_leastCostFrom_1 (fun q => (nI_pos (by have := hCM.1; omega) q).elim) (fun c1 => ?_)
  refine v_iload_n C 1 rfl rfl dX4_leastCostFrom_4 ?_
  refine v_aload_n C 0 rfl rfl dX4_leastCostFrom_5 ?_
  refine v_getI C (nI nr) fl_RX4_211 hA.k8 hX.1 dX4_leastCostFrom_6 ?_
  refine v_icmp_ge C 17 (by decide) dX4_leastCostFrom_9 (fun q => (nI_ge (by omega) (by have := hCM.1; omega) q).elim) (fun c9 => ?_)
  refine v_iload_n C 1 rfl rfl dX4_leastCostFrom_12 ?_
  refine v_iconst C 4 (by decide) dX4_leastCostFrom_13 ?_
  refine v_icmp_lt C 19 (by decide) dX4_leastCostFrom_14 (fun c14 => ?_) (fun q => (q (nI_ltn (b := 4) (by omega) (by omega))).elim)
  refine v_aload_n C 0 rfl rfl dX4_leastCostFrom_19 ?_
  refine v_getJ C (lO g) fl_RX4_223 hA.k8 hX.2.2.1 dX4_leastCostFrom_20 ?_
  refine v_aload_n C 0 rfl rfl dX4_leastCostFrom_23 ?_
  refine v_iload_n C 1 rfl rfl dX4_leastCostFrom_24 ?_
  refine v_iconst C 1 (by decide) dX4_leastCostFrom_25 ?_
  refine v_iadd C dX4_leastCostFrom_26 ?_
  refine v_iload_n C 2 rfl rfl dX4_leastCostFrom_27 ?_
  rw [nr_1 hk1]
  refine v_callSl C (st := [.long (lO g)]) [.ref (ad 8 0), .int (nI (nr - k)), .int (nI m0)] (IH S us m0 hA hX hm6 hus) ml_RX4_154 ms_yX4_leastCostFrom rfl (Nat.le_of_ble_eq_true rfl) (by show 8 + k + 1 ≤ 8 + (k + 1); omega) (by show 8 + (8 + 11) + 40 * (8 + k) ≤ 40 * (8 + (k + 1)); omega) (Nat.le_of_ble_eq_true rfl) (Nat.le_of_ble_eq_true rfl) dX4_leastCostFrom_28 (fun r u h => ?_) _ rfl
  obtain ⟨rfl, rfl⟩ := h
  refine v_ladd C dX4_leastCostFrom_31 ?_
  refine v_lstore_n C [(3, .long ((lO g) + (lO (opt cm g lc nr k us).1))), (0, .ref (ad 8 0)), (1, .int (nI (nr - (k + 1)))), (2, .int (nI m0))] (by decide) rfl rfl dX4_leastCostFrom_32 ?_
  refine v_iconst C 0 (by decide) dX4_leastCostFrom_33 ?_
  refine v_istore C [(5, .int 0), (3, .long ((lO g) + (lO (opt cm g lc nr k us).1))), (0, .ref (ad 8 0)), (1, .int (nI (nr - (k + 1)))), (2, .int (nI m0))] (by decide) rfl dX4_leastCostFrom_34 ?_
  rw [lO_add]
  refine V.sub [2, 3, 4, 1, 0] rfl (lp_X4_leastCostFrom S ad n nr lc cm g k hk1 IH us m0 hCM hA hX hm6 hus C ?_ (lc + 1) 0 (by omega) (by omega))
  refine v_lload_n C 3 rfl rfl dX4_leastCostFrom_108 ?_
  exact v_lret C hRT (Nat.le_of_ble_eq_true rfl) (Nat.le_of_ble_eq_true rfl) dX4_leastCostFrom_109 ⟨_, rfl, congrArg lO (mo_b _ _), rfl⟩
theorem lcOK {l : Launch} {ad : AD} {n nr lc : Nat} {cm : Nat → Nat → Int} {g : Int} (hCM : CMok nr lc cm g) : ∀ k, k ≤ nr → LcOK l ad n nr lc cm g k
  | 0, _ => fun S us m0 hA hX hm6 hus => c_X4_leastCostFrom0 l S ad n nr lc cm g us m0 hCM hA hX hm6 hus
  | k + 1, hk => fun S us m0 hA hX hm6 hus => c_X4_leastCostFromS l S ad n nr lc cm g k hk (lcOK hCM k (by omega)) us m0 hCM hA hX hm6 hus
set_option maxRecDepth 100000 in
set_option maxHeartbeats 4000000 in
theorem c_X4_bestCost (l : Launch) (S : HS) (ad : AD) (q : AS) (hA : XA S ad (cn q 1)) (hV : XV S ad q) (hB : BI q)  : cM l yX4_bestCost cX4_bestCost 1 (Option.some Jvm.ClassFile.FieldType.long) 14 [.ref (ad 0 0)] S (pL fun r u => FrX S u ad ∧ lO (optA q).1 = r) 0 0 := by
  refine cM_intro (by decide +kernel) cd_X4_bestCost (Nat.le_of_ble_eq_true rfl) ?_
  intro pP eE sS mM aA bB tT cC G A C hRT hin
  refine V.lvs (lv2 := [(0, .ref (ad 0 0))]) rfl ?_
  refine v_aload_n C 0 rfl rfl dX4_bestCost_0 ?_
  refine v_callVv C (st := []) [] (c_X4_findBestMatching l S ad q hA hV hB) ml_RX4_111 mi_yX4_findBestMatching hA.k0 (by decide) (by decide +kernel) rfl (Nat.le_of_ble_eq_true rfl) (Nat.le_of_ble_eq_true rfl) (by simp [rmD]) (Nat.le_of_ble_eq_true rfl) (Nat.le_of_ble_eq_true rfl) dX4_bestCost_1 (fun u h => ?_) _ rfl
  obtain ⟨hF, hX, hXb⟩ := h
  have hAT := hF.toA hA
  have hVT := hF.toV hA hV
  refine v_aload_n C 0 rfl rfl dX4_bestCost_4 ?_
  refine v_getR C (ad 8 0) fl_RX4_30 hAT.k0 hAT.r33 dX4_bestCost_5 ?_
  refine v_getJ C (hJ u 12 (ad 8 0)) fl_RX4_147 hAT.k8 rfl dX4_bestCost_8 ?_
  exact v_lret C hRT (Nat.le_of_ble_eq_true rfl) (Nat.le_of_ble_eq_true rfl) dX4_bestCost_11 ⟨_, rfl, hF, hXb.1.symm⟩
set_option maxRecDepth 100000 in
set_option maxHeartbeats 4000000 in
theorem c_X4_bestCostByTrying (l : Launch) (S : HS) (ad : AD) (q : AS) (hA : XA S ad (cn q 1)) (hV : XV S ad q) (hB : BI q)  : cM l yX4_bestCostByTrying cX4_bestCostByTrying 1 (Option.some Jvm.ClassFile.FieldType.long) 14 [.ref (ad 0 0)] S (pL fun r u => FrX S u ad ∧ lO (optA q).1 = r) 0 0 := by
  refine cM_intro (by decide +kernel) cd_X4_bestCostByTrying (Nat.le_of_ble_eq_true rfl) ?_
  intro pP eE sS mM aA bB tT cC G A C hRT hin
  refine V.lvs (lv2 := [(0, .ref (ad 0 0))]) rfl ?_
  refine v_aload_n C 0 rfl rfl dX4_bestCostByTrying_0 ?_
  refine v_callVv C (st := []) [] (c_X4_prepareMatching l S ad q hA hV hB) ml_RX4_151 mi_yX4_prepareMatching hA.k0 (by decide) (by decide +kernel) rfl (Nat.le_of_ble_eq_true rfl) (Nat.le_of_ble_eq_true rfl) (by simp [rmD]) (Nat.le_of_ble_eq_true rfl) (Nat.le_of_ble_eq_true rfl) dX4_bestCostByTrying_1 (fun u h => ?_) _ rfl
  obtain ⟨hF, hX⟩ := h
  have hAT := hF.toA hA
  have hVT := hF.toV hA hV
  refine v_aload_n C 0 rfl rfl dX4_bestCostByTrying_4 ?_
  refine v_getR C (ad 8 0) fl_RX4_30 hAT.k0 hAT.r33 dX4_bestCostByTrying_5 ?_
  refine v_iconst C 0 (by decide) dX4_bestCostByTrying_8 ?_
  refine v_iconst C 0 (by decide) dX4_bestCostByTrying_9 ?_
  have hX2 : XN u ad (cn q 0) (cntP (liveP q) (cn q 1)) (fun r i => ctk q r (lvt (liveP q) (cn q 1) i)) (gsq q) := ⟨hX.1, hX.2.1, hX.2.2.1, hX.2.2.2.2⟩
  have key := lcOK (l := l) (ad := ad) (n := cn q 1) (ctk_ok hB) (cn q 0) (Nat.le_refl _) u noneUsed 0 hAT hX2 (by decide) (fun _ _ => Nat.zero_testBit _)
  rw [Nat.sub_self] at key
  have h04 : cn q 0 ≤ 4 := hB.b0
  refine v_callSl C (st := []) [.ref (ad 8 0), .int 0, .int 0] key ml_RX4_154 ms_yX4_leastCostFrom rfl (Nat.le_of_ble_eq_true rfl) (by show 8 + cn q 0 + 1 ≤ 14; omega) (by show 8 + (8 + 11) + 40 * (8 + cn q 0) ≤ 40 * 14; omega) (Nat.le_of_ble_eq_true rfl) (Nat.le_of_ble_eq_true rfl) dX4_bestCostByTrying_10 (fun r u h => ?_) _ rfl
  obtain ⟨rfl, rfl⟩ := h
  exact v_lret C hRT (Nat.le_of_ble_eq_true rfl) (Nat.le_of_ble_eq_true rfl) dX4_bestCostByTrying_13 ⟨_, rfl, hF, rfl⟩
