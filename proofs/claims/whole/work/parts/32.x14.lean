/-- one clock is another -/
def clkA (q : AS) (j c : Nat) (w : Nat → Int) : AS := (fun k => if k = 10 + j then c else cn q k, fun i j' k => if i = 1 ∧ j' = j then w k else zz q i j' k)
theorem clk_cn (q : AS) (j c : Nat) (w : Nat → Int) {k : Nat} (h : k ≠ 10 + j) : cn (clkA q j c w) k = cn q k := if_neg h
theorem clk_cn1 (q : AS) (j c : Nat) (w : Nat → Int) : cn (clkA q j c w) (10 + j) = c := if_pos rfl
theorem clk_zz (q : AS) (j c : Nat) (w : Nat → Int) {i j' k : Nat} (h : ¬ (i = 1 ∧ j' = j)) : zz (clkA q j c w) i j' k = zz q i j' k := if_neg h
theorem clk_zz1 (q : AS) (j c : Nat) (w : Nat → Int) (k : Nat) : zz (clkA q j c w) 1 j k = w k := if_pos ⟨rfl, rfl⟩
def FrC (S T : HS) (ad : AD) (j : Nat) : Prop := (∀ a, hK T a = hK S a) ∧ (∀ f a, hR T f a = hR S f a) ∧ (∀ a, hN T a = hN S a) ∧ (∀ f a, (5 ≤ f ∨ a ≠ ad 2 j) → hI T f a = hI S f a) ∧ (∀ a, aR T a = aR S a) ∧ (∀ a, aI T a = aI S a)
theorem FrC.toA {S T : HS} {ad : AD} {n j : Nat} (f : FrC S T ad j) (h : XA S ad n) : XA T ad n := h.of (funext f.1) (funext fun x => funext (f.2.1 x)) (funext f.2.2.1) (funext f.2.2.2.2.1)
theorem FrC.rf {S : HS} {ad : AD} {j : Nat} : FrC S S ad j := ⟨fun _ => rfl, fun _ _ => rfl, fun _ => rfl, fun _ _ _ => rfl, fun _ => rfl, fun _ => rfl⟩
theorem FrC.I {S T : HS} {ad : AD} {j f : Nat} {v : Int32} (hf : f < 5) (h : FrC S T ad j) : FrC S (sI T f (ad 2 j) v) ad j := ⟨h.1, h.2.1, h.2.2.1, fun f' a ha => (hI_sI2 (fun z => by rcases ha with ha | ha; exact absurd z.1 (by omega); exact ha z.2)).trans (h.2.2.2.1 f' a ha), h.2.2.2.2.1, h.2.2.2.2.2⟩
theorem XV.clk {S T : HS} {ad : AD} {q : AS} {j c : Nat} {w : Nat → Int} (hA : XA S ad (cn q 1)) (hV : XV S ad q) (f : FrC S T ad j) (hj : j < 4) (h0 : hI T 0 (ad 2 j) = nI c) (hw : ∀ k, k < 4 → hI T (1 + k) (ad 2 j) = iO (w k)) : XV T ad (clkA q j c w) := by
  have c1 : ∀ k, k ≠ 10 + j → cn (clkA q j c w) k = cn q k := fun k hk => clk_cn q j c w hk
  have z1 : ∀ i, i ≠ 1 → ∀ j' k, zz (clkA q j c w) i j' k = zz q i j' k := fun i hi j' k => clk_zz q j c w (fun z => hi z.1)
  have r1 : ∀ g, 5 ≤ g → ∀ a, hI T g a = hI S g a := fun g hg a => f.2.2.2.1 g a (Or.inl hg)
  refine ⟨by rw [r1 _ (by decide), c1 0 (by omega)]; exact hV.v30, by rw [r1 _ (by decide), c1 1 (by omega)]; exact hV.v32, by rw [r1 _ (by decide), c1 2 (by omega)]; exact hV.v39, by rw [r1 _ (by decide), c1 3 (by omega)]; exact hV.v40, by rw [r1 _ (by decide), z1 0 (by decide)]; exact hV.v34, by rw [r1 _ (by decide), z1 0 (by decide)]; exact hV.v35, by rw [r1 _ (by decide), z1 0 (by decide)]; exact hV.v36, by rw [r1 _ (by decide), z1 0 (by decide)]; exact hV.v37, by rw [r1 _ (by decide), z1 0 (by decide)]; exact hV.v38,
    fun i hi => ?_, fun i hi k hk => ?_, fun i hi k hk => by rw [r1 _ (by omega), z1 2 (by decide)]; exact hV.p i hi k hk, fun i hi => ?_, fun i hi k hk => ?_, fun i hi => ?_, fun i hi => ?_, fun i hi => ?_, fun i hi j' hj' => ?_⟩
  · by_cases e : i = j
    · rw [e, clk_cn1]; exact h0
    · rw [f.2.2.2.1 _ _ (Or.inr (fun z => e (hA.j2 i hi j hj z))), c1 _ (by omega)]; exact hV.c0 i hi
  · by_cases e : i = j
    · rw [e, clk_zz1]; exact hw k hk
    · rw [f.2.2.2.1 _ _ (Or.inr (fun z => e (hA.j2 i hi j hj z))), clk_zz q j c w (fun z => e z.2)]; exact hV.c1 i hi k hk
  all_goals rw [c1 1 (by omega)] at hi
  · rw [r1 _ (by omega)]; exact hV.t16 i hi
  · rw [r1 _ (by omega), z1 3 (by decide)]; exact hV.tv i hi k hk
  · rw [r1 _ (by omega), z1 3 (by decide)]; exact hV.t24 i hi
  · rw [r1 _ (by omega), z1 3 (by decide), z1 3 (by decide)]; exact hV.t25 i hi
  · rw [r1 _ (by omega), c1 _ (by omega)]; exact hV.t27 i hi
  · rw [c1 _ (by omega)] at hj'
    rw [f.2.2.2.2.2, z1 4 (by decide)]; exact hV.sg i hi j' hj'
theorem BI.clk {q : AS} {j c : Nat} {w : Nat → Int} (hB : BI q) (hj : j < 4) (hc : c ≤ 2) (hl : 1 ≤ c → bd (w 2) 0 9999 ∧ bd (w 3) 0 9999) (he : c = 2 → bd (w 0) 0 9999 ∧ bd (w 1) 0 9999 ∧ w 0 < w 2 ∧ w 2 - w 0 ≤ 2 * (w 3 - w 1) ∧ w 3 - w 1 ≤ 2 * (w 2 - w 0)) : BI (clkA q j c w) := by
  have c1 : ∀ k, k ≠ 10 + j → cn (clkA q j c w) k = cn q k := fun k hk => clk_cn q j c w hk
  have z1 : ∀ i, i ≠ 1 → ∀ j' k, zz (clkA q j c w) i j' k = zz q i j' k := fun i hi j' k => clk_zz q j c w (fun z => hi z.1)
  refine ⟨by rw [c1 0 (by omega)]; exact hB.b0, by rw [c1 1 (by omega)]; exact hB.b1, fun i hi => ?_, fun i hi h => ?_, fun i hi h => ?_, fun r hr => ?_, fun t ht => ?_, fun t ht => ?_, by rw [z1 0 (by decide)]; exact hB.g0, by rw [z1 0 (by decide)]; exact hB.g1, by rw [z1 0 (by decide)]; exact hB.g2, by rw [z1 0 (by decide)]; exact hB.g3, by rw [z1 0 (by decide)]; exact hB.g4, ?_, fun t ht => ?_⟩
  · by_cases e : i = j
    · rw [e, clk_cn1]; exact hc
    · rw [c1 _ (by omega)]; exact hB.bc i hi
  · by_cases e : i = j
    · rw [e, clk_cn1] at h
      rw [e, clk_zz1, clk_zz1]; exact hl h
    · rw [c1 _ (by omega)] at h
      rw [clk_zz q j c w (fun z => e z.2), clk_zz q j c w (fun z => e z.2)]; exact hB.bl i hi h
  · by_cases e : i = j
    · rw [e, clk_cn1] at h
      rw [e, clk_zz1, clk_zz1, clk_zz1, clk_zz1]; exact he h
    · rw [c1 _ (by omega)] at h
      have zq : ∀ k, zz (clkA q j c w) 1 i k = zz q 1 i k := fun k => clk_zz q j c w (fun z => e z.2)
      rw [zq, zq, zq, zq]; exact hB.be i hi h
  · rw [c1 0 (by omega)] at hr
    rw [z1 2 (by decide), z1 2 (by decide), z1 2 (by decide)]; exact hB.br r hr
  · rw [c1 1 (by omega)] at ht
    rw [z1 3 (by decide), z1 3 (by decide), z1 3 (by decide), z1 3 (by decide), z1 3 (by decide)]; exact hB.bt t ht
  · rw [c1 1 (by omega)] at ht
    rw [z1 3 (by decide)]; exact hB.bs t ht
  · rw [c1 1 (by omega), show liveP (clkA q j c w) = liveP q from funext fun t => by unfold liveP; rw [z1 3 (by decide)]]
    exact hB.bv
  · rw [c1 1 (by omega)] at ht
    rw [c1 _ (by omega)]; exact hB.bh t ht
/-! ## the calls: codes (0 where it answers) and answers -/
def isSn (i : Int32) : Prop := ¬ i < 0 ∧ i < 4
theorem sn_not {i : Int32} (h : i < 0 ∨ ¬ i < 4) : ¬ isSn i := fun z => by rcases h with h | h; exact z.1 h; exact h z.2
def isTm (t : Int32) : Prop := ¬ t < 0 ∧ ¬ 9999 < t
def okAdd (q : AS) (j : Nat) (t u : Int32) : Prop := isTm t ∧ isTm u ∧ (nI (cn q (10 + j)) = 0 ∨ (¬ t - iO (zz q 1 j 2) ≤ 0 ∧ ¬ 2 * (u - iO (zz q 1 j 3)) < t - iO (zz q 1 j 2) ∧ ¬ 2 * (t - iO (zz q 1 j 2)) < u - iO (zz q 1 j 3)))
def addW (q : AS) (j : Nat) (t u : Int) : Nat → Int
  | 0 => zz q 1 j 2
  | 1 => zz q 1 j 3
  | 2 => t
  | _ => u
def addQ (q : AS) (j : Nat) (t u : Int32) : AS := clkA q j (if cn q (10 + j) = 0 then 1 else 2) (addW q j t.toInt u.toInt)
theorem nI_iff0 {n : Nat} (h : n < 2 ^ 31) : nI n = 0 ↔ n = 0 := ⟨fun z => nI_z z h, fun z => by rw [z]; rfl⟩
theorem bI_pt {P : Prop} [Decidable P] (h : ¬ bI P = 0) : P := bI_n0 h
def fgtQ (q : AS) (j : Nat) : AS := clkA q j 0 (fun k => zz q 1 j k)
set_option maxRecDepth 100000 in
set_option maxHeartbeats 4000000 in
theorem c_X4_forgetPairs (l : Launch) (hlf : l.stackTraces = false) (S : HS) (ad : AD) (q : AS) (hB : BI q) (hA : XA S ad (cn q 1)) (hV : XV S ad q) (i : Int32) : cX l yX4_forgetPairs cX4_forgetPairs 4 (Option.some Jvm.ClassFile.FieldType.int) 8 [.ref (ad 0 0), .int i] S (pI fun r u => ∃ j, j < 4 ∧ i = nI j ∧ XA u ad (cn q 1) ∧ XV u ad (fgtQ q j) ∧ nI (cn q (10 + j)) = r) (fun E u => E = eIO ∧ S = u ∧ ¬ isSn i) 1 6 := by
  refine cX_intro (by decide +kernel) cd_X4_forgetPairs (Nat.le_of_ble_eq_true rfl) ?_
  intro pP eE sS mM aA bB tT cC G A C hRT hnt
  refine V.lvs (lv2 := [(0, .ref (ad 0 0)), (1, .int i)]) rfl ?_
  refine v_aload_n C 0 rfl rfl dX4_forgetPairs_0 ?_
  refine v_iload_n C 1 rfl rfl dX4_forgetPairs_1 ?_
  refine v_xcallVq C (st := []) [.int i] (c_X4_clockOf l hlf S ad (cn q 1) i hA) ml_RX4_52 mi_yX4_clockOf hA.k0 (by decide) (by decide +kernel) rfl (Nat.le_of_ble_eq_true rfl) (Nat.le_of_ble_eq_true rfl) (Nat.le_of_ble_eq_true rfl) (Nat.le_of_ble_eq_true rfl) (Nat.le_of_ble_eq_true rfl) dX4_forgetPairs_2 (fun E u h => ?_) (fun r u h => ?_) _ rfl
  · obtain ⟨rfl, rfl, hx⟩ := h
    exact vx_end C hnt (Nat.le_of_ble_eq_true rfl) (Nat.le_of_ble_eq_true rfl) ⟨rfl, rfl, sn_not hx⟩
  obtain ⟨j, hj, rfl, rfl, rfl⟩ := h
  refine v_astore_n C [(2, .ref (ad 2 j)), (0, .ref (ad 0 0)), (1, .int (nI j))] (by decide) rfl rfl dX4_forgetPairs_5 ?_
  refine v_aload_n C 0 rfl rfl dX4_forgetPairs_6 ?_
  refine v_getI C (nI (cn q (10 + j))) fl_RX4_72 (hA.k2 j hj) (hV.c0 j hj) dX4_forgetPairs_7 ?_
  refine v_istore_n C [(3, .int (nI (cn q (10 + j)))), (2, .ref (ad 2 j)), (0, .ref (ad 0 0)), (1, .int (nI j))] (by decide) rfl rfl dX4_forgetPairs_10 ?_
  refine v_aload_n C 1 rfl rfl dX4_forgetPairs_11 ?_
  refine v_iconst C 0 (by decide) dX4_forgetPairs_12 ?_
  refine v_putI C fl_RX4_72 (hA.k2 j hj) rfl rfl dX4_forgetPairs_13 ?_
  refine v_iload_n C 0 rfl rfl dX4_forgetPairs_16 ?_
  exact v_xiret C hRT (Nat.le_of_ble_eq_true rfl) (Nat.le_of_ble_eq_true rfl) dX4_forgetPairs_17 ⟨_, rfl, j, hj, rfl, (FrC.I (by decide) FrC.rf).toA hA, XV.clk hA hV (FrC.I (by decide) FrC.rf) hj hI_sI1 (fun k hk => (hI_sI2 (fun z => absurd z.1 (by omega))).trans (hV.c1 j hj k hk)), rfl⟩
theorem add_XV {S : HS} {ad : AD} {q : AS} {j : Nat} {t u : Int32} (hA : XA S ad (cn q 1)) (hV : XV S ad q) (hB : BI q) (hj : j < 4) : XV (sI (sI (sI (sI (sI S 1 (ad 2 j) (hI S 3 (ad 2 j))) 2 (ad 2 j) (hI S 4 (ad 2 j))) 3 (ad 2 j) t) 4 (ad 2 j) u) 0 (ad 2 j) (if hI S 0 (ad 2 j) = 0 then 1 else 2)) ad (addQ q j t u) := by
  have w0 := hV.c0 j hj
  have w3 : hI S 3 (ad 2 j) = iO (zz q 1 j 2) := hV.c1 j hj 2 (by decide)
  have w4 : hI S 4 (ad 2 j) = iO (zz q 1 j 3) := hV.c1 j hj 3 (by decide)
  have hc2 := hB.bc j hj
  refine XV.clk hA hV (FrC.I (by decide) (FrC.I (by decide) (FrC.I (by decide) (FrC.I (by decide) (FrC.I (by decide) FrC.rf))))) hj ?_ (fun k hk => ?_)
  · refine hI_sI1.trans ?_
    rw [w0]
    by_cases h : cn q (10 + j) = 0
    · rw [if_pos ((nI_iff0 (by omega)).mpr h), if_pos h]; rfl
    · rw [if_neg (fun z => h ((nI_iff0 (by omega)).mp z)), if_neg h]; rfl
  · rcases (show k = 0 ∨ k = 1 ∨ k = 2 ∨ k = 3 by omega) with rfl | rfl | rfl | rfl
    · simp [hI_sI, w3]; rfl
    · simp [hI_sI, w4]; rfl
    · simp [hI_sI]; exact (iO_of t).symm
    · simp [hI_sI]; exact (iO_of u).symm
theorem tm_bd {t : Int32} (h : isTm t) : bd t.toInt 0 9999 := by
  obtain ⟨h1, h2⟩ := h
  rw [Int32.lt_iff_toInt_lt] at h1 h2
  have e1 : (0 : Int32).toInt = 0 := rfl
  have e2 : (9999 : Int32).toInt = 9999 := rfl
  unfold bd
  omega
theorem add_BI {q : AS} {j : Nat} {t u : Int32} (hB : BI q) (hj : j < 4) (hok : okAdd q j t u) : BI (addQ q j t u) := by
  obtain ⟨h1, h2, h3⟩ := hok
  have b1 := tm_bd h1
  have b2 := tm_bd h2
  have hc2 := hB.bc j hj
  refine hB.clk hj (by split <;> omega) (fun _ => ⟨b1, b2⟩) (fun hc => ?_)
  by_cases h : cn q (10 + j) = 0
  · rw [if_pos h] at hc; omega
  · obtain ⟨l1, l2⟩ := hB.bl j hj (by omega)
    rcases h3 with h3 | ⟨h3, h4, h5⟩
    · exact absurd ((nI_iff0 (by omega)).mp h3) h
    · have et : t = iO t.toInt := (iO_of t).symm
      have eu : u = iO u.toInt := (iO_of u).symm
      rw [et, iO_sub, show (0 : Int32) = iO 0 from rfl, iO_le (by unfold bd at *; omega) (by unfold bd at *; omega) (by decide) (by decide)] at h3
      rw [et, eu, iO_sub, iO_sub, show (2 : Int32) = iO 2 from rfl, iO_mul, iO_lt (by unfold bd at *; omega) (by unfold bd at *; omega) (by unfold bd at *; omega) (by unfold bd at *; omega)] at h4 h5
      refine ⟨l1, l2, ?_, ?_, ?_⟩
      · show zz q 1 j 2 < t.toInt; omega
      · show t.toInt - zz q 1 j 2 ≤ 2 * (u.toInt - zz q 1 j 3); omega
      · show u.toInt - zz q 1 j 3 ≤ 2 * (t.toInt - zz q 1 j 2); omega
theorem fgt_BI {q : AS} {j : Nat} (hB : BI q) (hj : j < 4) : BI (fgtQ q j) := hB.clk hj (by decide) (fun h => by omega) (fun h => by omega)
set_option maxRecDepth 100000 in
set_option maxHeartbeats 4000000 in
theorem c_X4_addPair (l : Launch) (hlf : l.stackTraces = false) (S : HS) (ad : AD) (q : AS) (hB : BI q) (hA : XA S ad (cn q 1)) (hV : XV S ad q) (i t u9 : Int32) : cX l yX4_addPair cX4_addPair 5 (Option.some Jvm.ClassFile.FieldType.int) 12 [.ref (ad 0 0), .int i, .int t, .int u9] S (pI fun r u => ∃ j, j < 4 ∧ i = nI j ∧ okAdd q j t u9 ∧ XA u ad (cn q 1) ∧ XV u ad (addQ q j t u9) ∧ nI (cn (addQ q j t u9) (10 + j)) = r) (fun E u => S = u ∧ ((E = eIO ∧ ¬ isSn i) ∨ (E = eIA ∧ ∃ j, j < 4 ∧ i = nI j ∧ ¬ okAdd q j t u9))) 3 18 := by
  refine cX_intro (by decide +kernel) cd_X4_addPair (Nat.le_of_ble_eq_true rfl) ?_
  intro pP eE sS mM aA bB tT cC G A C hRT hnt
  refine V.lvs (lv2 := [(0, .ref (ad 0 0)), (1, .int i), (2, .int t), (3, .int u9)]) rfl ?_
  refine v_aload_n C 0 rfl rfl dX4_addPair_0 ?_
  refine v_iload_n C 1 rfl rfl dX4_addPair_1 ?_
  refine v_xcallVq C (st := []) [.int i] (c_X4_clockOf l hlf S ad (cn q 1) i hA) ml_RX4_52 mi_yX4_clockOf hA.k0 (by decide) (by decide +kernel) rfl (Nat.le_of_ble_eq_true rfl) (Nat.le_of_ble_eq_true rfl) (Nat.le_of_ble_eq_true rfl) (Nat.le_of_ble_eq_true rfl) (Nat.le_of_ble_eq_true rfl) dX4_addPair_2 (fun E u h => ?_) (fun r u h => ?_) _ rfl
  · obtain ⟨rfl, rfl, hx⟩ := h
    exact vx_end C hnt (Nat.le_of_ble_eq_true rfl) (Nat.le_of_ble_eq_true rfl) ⟨rfl, Or.inl ⟨rfl, sn_not hx⟩⟩
  obtain ⟨j, hj, rfl, rfl, rfl⟩ := h
  refine v_astore C [(4, .ref (ad 2 j)), (0, .ref (ad 0 0)), (1, .int (nI j)), (2, .int t), (3, .int u9)] (by decide) rfl dX4_addPair_5 ?_
  refine v_iload_n C 3 rfl rfl dX4_addPair_7 ?_
  refine v_callSi C (st := []) [.int t] (c_X4_isSensorTime l S t) ml_RX4_56 ms_yX4_isSensorTime rfl (Nat.le_of_ble_eq_true rfl) (Nat.le_of_ble_eq_true rfl) (Nat.le_of_ble_eq_true rfl) (Nat.le_of_ble_eq_true rfl) (Nat.le_of_ble_eq_true rfl) dX4_addPair_8 (fun r u h => ?_) _ rfl
  obtain ⟨rfl, rfl⟩ := h
  refine v_if_eq C 25 (by decide) dX4_addPair_11 (fun c11 => ?_) (fun c11 => ?_)
  · refine v_iconst C 0 (by decide) dX4_addPair_25 ?_
    refine v_xcallSv C (st := []) [.int 0] (c_X4_refuseUnless l hlf S 0) ml_RX4_60 ms_yX4_refuseUnless rfl (Nat.le_of_ble_eq_true rfl) (Nat.le_of_ble_eq_true rfl) (Nat.le_of_ble_eq_true rfl) (Nat.le_of_ble_eq_true rfl) (Nat.le_of_ble_eq_true rfl) dX4_addPair_26 (fun E u h => ?_) (fun u h => ?_) _ rfl
    · obtain ⟨rfl, rfl, hx⟩ := h
      exact vx_end C hnt (Nat.le_of_ble_eq_true rfl) (Nat.le_of_ble_eq_true rfl) ⟨rfl, Or.inr ⟨rfl, j, hj, rfl, fun z => bI_e0 c11 z.1⟩⟩
    exact absurd rfl h.2
  · refine v_iload_n C 4 rfl rfl dX4_addPair_14 ?_
    refine v_callSi C (st := []) [.int u9] (c_X4_isSensorTime l S u9) ml_RX4_56 ms_yX4_isSensorTime rfl (Nat.le_of_ble_eq_true rfl) (Nat.le_of_ble_eq_true rfl) (Nat.le_of_ble_eq_true rfl) (Nat.le_of_ble_eq_true rfl) (Nat.le_of_ble_eq_true rfl) dX4_addPair_15 (fun r u h => ?_) _ rfl
    obtain ⟨rfl, rfl⟩ := h
    refine v_if_eq C 25 (by decide) dX4_addPair_18 (fun c18 => ?_) (fun c18 => ?_)
    · refine v_iconst C 0 (by decide) dX4_addPair_25 ?_
      refine v_xcallSv C (st := []) [.int 0] (c_X4_refuseUnless l hlf S 0) ml_RX4_60 ms_yX4_refuseUnless rfl (Nat.le_of_ble_eq_true rfl) (Nat.le_of_ble_eq_true rfl) (Nat.le_of_ble_eq_true rfl) (Nat.le_of_ble_eq_true rfl) (Nat.le_of_ble_eq_true rfl) dX4_addPair_26 (fun E u h => ?_) (fun u h => ?_) _ rfl
      · obtain ⟨rfl, rfl, hx⟩ := h
        exact vx_end C hnt (Nat.le_of_ble_eq_true rfl) (Nat.le_of_ble_eq_true rfl) ⟨rfl, Or.inr ⟨rfl, j, hj, rfl, fun z => bI_e0 c18 z.2.1⟩⟩
      exact absurd rfl h.2
    · refine v_iconst C 1 (by decide) dX4_addPair_21 ?_
      refine v_goto C 26 (by decide) dX4_addPair_22 ?_
      refine v_xcallSv C (st := []) [.int 1] (c_X4_refuseUnless l hlf S 1) ml_RX4_60 ms_yX4_refuseUnless rfl (Nat.le_of_ble_eq_true rfl) (Nat.le_of_ble_eq_true rfl) (Nat.le_of_ble_eq_true rfl) (Nat.le_of_ble_eq_true rfl) (Nat.le_of_ble_eq_true rfl) dX4_addPair_26 (fun E u h => ?_) (fun u h => ?_) _ rfl
      · exact absurd h.2.2 (by decide)
      obtain ⟨rfl, hok⟩ := h
      refine v_aload C 0 rfl dX4_addPair_29 ?_
      refine v_iload_n C 3 rfl rfl dX4_addPair_31 ?_
      refine v_iload_n C 4 rfl rfl dX4_addPair_32 ?_
      refine v_callVi C (st := []) [.int t, .int u9] (c_X0_fits l S (ad 2 j) t u9 (hA.k2 j hj)) ml_RX4_64 mi_yX0_fits (hA.k2 j hj) (by decide) (by decide +kernel) rfl (Nat.le_of_ble_eq_true rfl) (Nat.le_of_ble_eq_true rfl) (Nat.le_of_ble_eq_true rfl) (Nat.le_of_ble_eq_true rfl) (Nat.le_of_ble_eq_true rfl) dX4_addPair_33 (fun r u h => ?_) _ rfl
      obtain ⟨rfl, rfl⟩ := h
      refine v_xcallSv C (st := []) [.int (bI (hI S 0 (ad 2 j) = 0 ∨ (¬ t - hI S 3 (ad 2 j) ≤ 0 ∧ ¬ 2 * (u9 - hI S 4 (ad 2 j)) < t - hI S 3 (ad 2 j) ∧ ¬ 2 * (t - hI S 3 (ad 2 j)) < u9 - hI S 4 (ad 2 j))))] (c_X4_refuseUnless l hlf S (bI (hI S 0 (ad 2 j) = 0 ∨ (¬ t - hI S 3 (ad 2 j) ≤ 0 ∧ ¬ 2 * (u9 - hI S 4 (ad 2 j)) < t - hI S 3 (ad 2 j) ∧ ¬ 2 * (t - hI S 3 (ad 2 j)) < u9 - hI S 4 (ad 2 j))))) ml_RX4_60 ms_yX4_refuseUnless rfl (Nat.le_of_ble_eq_true rfl) (Nat.le_of_ble_eq_true rfl) (Nat.le_of_ble_eq_true rfl) (Nat.le_of_ble_eq_true rfl) (Nat.le_of_ble_eq_true rfl) dX4_addPair_36 (fun E u h => ?_) (fun u h => ?_) _ rfl
      · obtain ⟨rfl, rfl, hx⟩ := h
        exact vx_end C hnt (Nat.le_of_ble_eq_true rfl) (Nat.le_of_ble_eq_true rfl) ⟨rfl, Or.inr ⟨rfl, j, hj, rfl, fun z => bI_e0 hx (by rw [hV.c0 j hj, show hI S 3 (ad 2 j) = _ from hV.c1 j hj 2 (by decide), show hI S 4 (ad 2 j) = _ from hV.c1 j hj 3 (by decide)]; exact z.2.2)⟩⟩
      obtain ⟨rfl, hok⟩ := h
      refine v_aload C 0 rfl dX4_addPair_39 ?_
      refine v_iload_n C 3 rfl rfl dX4_addPair_41 ?_
      refine v_iload_n C 4 rfl rfl dX4_addPair_42 ?_
      refine v_callVv C (st := []) [.int t, .int u9] (c_X0_add l S (ad 2 j) t u9 (hA.k2 j hj)) ml_RX4_68 mi_yX0_add (hA.k2 j hj) (by decide) (by decide +kernel) rfl (Nat.le_of_ble_eq_true rfl) (Nat.le_of_ble_eq_true rfl) (Nat.le_of_ble_eq_true rfl) (Nat.le_of_ble_eq_true rfl) (Nat.le_of_ble_eq_true rfl) dX4_addPair_43 (fun u h => ?_) _ rfl
      subst h
      have hokA : okAdd q j t u9 := ⟨(bI_n0 c11 : ¬ t < 0 ∧ ¬ 9999 < t), (bI_n0 c18 : ¬ u9 < 0 ∧ ¬ 9999 < u9), by have h9 := bI_n0 hok; rw [hV.c0 j hj, show hI S 3 (ad 2 j) = _ from hV.c1 j hj 2 (by decide), show hI S 4 (ad 2 j) = _ from hV.c1 j hj 3 (by decide)] at h9; exact h9⟩
      have hXV := add_XV (t := t) (u := u9) hA hV hB hj
      have hXA : XA (sI (sI (sI (sI (sI S 1 (ad 2 j) (hI S 3 (ad 2 j))) 2 (ad 2 j) (hI S 4 (ad 2 j))) 3 (ad 2 j) t) 4 (ad 2 j) u9) 0 (ad 2 j) (if hI S 0 (ad 2 j) = 0 then 1 else 2)) ad (cn q 1) := (FrC.I (j := j) (by decide) (FrC.I (by decide) (FrC.I (by decide) (FrC.I (by decide) (FrC.I (by decide) FrC.rf))))).toA hA
      refine v_aload C 0 rfl dX4_addPair_46 ?_
      refine v_getI C (nI (cn (addQ q j t u9) (10 + j))) fl_RX4_72 (hXA.k2 j hj) (hXV.c0 j hj) dX4_addPair_48 ?_
      exact v_xiret C hRT (Nat.le_of_ble_eq_true rfl) (Nat.le_of_ble_eq_true rfl) dX4_addPair_51 ⟨_, rfl, j, hj, rfl, hokA, hXA, hXV, rfl⟩
