/-- the i-th place that holds -/
def lvt (p : Nat → Bool) : Nat → Nat → Nat
  | 0, _ => 0
  | n + 1, i => if p n = true ∧ cntP p n = i then n else lvt p n i
theorem lvt_spec {p : Nat → Bool} : ∀ {n i : Nat}, i < cntP p n → lvt p n i < n ∧ p (lvt p n i) = true ∧ cntP p (lvt p n i) = i
  | 0, i, h => by exact absurd h (Nat.not_lt_zero i)
  | n + 1, i, h => by
    unfold lvt
    by_cases hc : p n = true ∧ cntP p n = i
    · rw [if_pos hc]
      exact ⟨Nat.lt_succ_self n, hc.1, hc.2⟩
    · rw [if_neg hc]
      have h2 : i < cntP p n := by
        by_cases hp : p n = true
        · rw [cntP_t hp] at h
          have : cntP p n ≠ i := fun z => hc ⟨hp, z⟩
          omega
        · rw [cntP_f (by simpa using hp)] at h
          exact h
      obtain ⟨a, b, c⟩ := lvt_spec h2
      exact ⟨by omega, b, c⟩
theorem lvt_keep {p : Nat → Bool} {n i : Nat} (h : i < cntP p n) : lvt p (n + 1) i = lvt p n i := by
  show (if p n = true ∧ cntP p n = i then n else lvt p n i) = _
  rw [if_neg (fun z => by omega)]
theorem lvt_new {p : Nat → Bool} {n : Nat} (h : p n = true) : lvt p (n + 1) (cntP p n) = n := by
  show (if p n = true ∧ cntP p n = cntP p n then n else lvt p n _) = _
  rw [if_pos ⟨h, rfl⟩]
theorem cntP_mono (p : Nat → Bool) {a b : Nat} (h : a ≤ b) : cntP p a ≤ cntP p b := by
  induction b with
  | zero => rw [Nat.le_zero.mp h]; exact Nat.le_refl _
  | succ b ih =>
    by_cases he : a = b + 1
    · rw [he]; exact Nat.le_refl _
    · have := ih (by omega)
      show _ ≤ cntP p b + _
      omega
theorem lvt_of {p : Nat → Bool} : ∀ {n j : Nat}, j < n → p j = true → lvt p n (cntP p j) = j
  | n + 1, j, h, hp => by
    by_cases he : j = n
    · subst he; exact lvt_new hp
    · have h1 : j < n := by omega
      have h2 := cntP_mono p (show j + 1 ≤ n by omega)
      rw [cntP_t hp] at h2
      rw [lvt_keep (by omega)]
      exact lvt_of h1 hp
/-- all but the search's own rows stays -/
def FrX (S T : HS) (ad : AD) : Prop := (∀ a, hK T a = hK S a) ∧ (∀ f a, hR T f a = hR S f a) ∧ (∀ a, hN T a = hN S a) ∧ (∀ f a, f ≠ 5 → f ≠ 6 → hI T f a = hI S f a) ∧ (∀ a, a ≠ ad 9 0 → aR T a = aR S a) ∧ (∀ a, a ≠ ad 12 0 → a ≠ ad 13 0 → aI T a = aI S a)
theorem FrX.rf {S : HS} {ad : AD} : FrX S S ad := ⟨fun _ => rfl, fun _ _ => rfl, fun _ => rfl, fun _ _ _ _ => rfl, fun _ _ => rfl, fun _ _ _ => rfl⟩
theorem FrX.tr {S T U : HS} {ad : AD} (h : FrX S T ad) (g : FrX T U ad) : FrX S U ad := ⟨fun a => (g.1 a).trans (h.1 a), fun f a => (g.2.1 f a).trans (h.2.1 f a), fun a => (g.2.2.1 a).trans (h.2.2.1 a), fun f a h5 h6 => (g.2.2.2.1 f a h5 h6).trans (h.2.2.2.1 f a h5 h6), fun a h9 => (g.2.2.2.2.1 a h9).trans (h.2.2.2.2.1 a h9), fun a h1 h2 => (g.2.2.2.2.2 a h1 h2).trans (h.2.2.2.2.2 a h1 h2)⟩
theorem FrX.I5 {S : HS} {ad : AD} {a : Nat} {v : Int32} : FrX S (sI S 5 a v) ad := ⟨fun _ => rfl, fun _ _ => rfl, fun _ => rfl, fun f a' h5 h6 => hI_sI2 (fun z => h5 z.1), fun _ _ => rfl, fun _ _ _ => rfl⟩
theorem FrX.I6 {S : HS} {ad : AD} {a : Nat} {v : Int32} : FrX S (sI S 6 a v) ad := ⟨fun _ => rfl, fun _ _ => rfl, fun _ => rfl, fun f a' h5 h6 => hI_sI2 (fun z => h6 z.1), fun _ _ => rfl, fun _ _ _ => rfl⟩
theorem FrX.J {S : HS} {ad : AD} {f a : Nat} {v : Int64} : FrX S (sJ S f a v) ad := ⟨fun _ => rfl, fun _ _ => rfl, fun _ => rfl, fun f a' h5 h6 => rfl, fun _ _ => rfl, fun _ _ _ => rfl⟩
theorem FrX.aJ {S : HS} {ad : AD} {a j : Nat} {v : Int64} : FrX S (tJ S a j v) ad := ⟨fun _ => rfl, fun _ _ => rfl, fun _ => rfl, fun f a' h5 h6 => rfl, fun _ _ => rfl, fun _ _ _ => rfl⟩
theorem aR_tR2 {S : HS} {a j a' : Nat} {v : Option Nat} (h : a' ≠ a) : aR (tR S a j v) a' = aR S a' := by funext z; simp [aR, tR, u2, h]
theorem aI_tI2 {S : HS} {a j a' : Nat} {v : Int32} (h : a' ≠ a) : aI (tI S a j v) a' = aI S a' := by funext z; simp [aI, tI, u2, h]
theorem aJ_tJ2 {S : HS} {a j a' : Nat} {v : Int64} (h : a' ≠ a) : aJ (tJ S a j v) a' = aJ S a' := by funext z; simp [aJ, tJ, u2, h]
theorem aI_rI2 {S : HS} {a a' : Nat} {r : Nat → Int32} (h : a' ≠ a) : aI (rI S a r) a' = aI S a' := by funext z; simp [aI, rI, ur, h]
theorem aI_rI1 {S : HS} {a : Nat} {r : Nat → Int32} : aI (rI S a r) a = r := by funext z; simp [aI, rI, ur]
theorem aR_tR1 {S : HS} {a j : Nat} {v : Option Nat} (z : Nat) : aR (tR S a j v) a z = if z = j then v else aR S a z := by simp [aR, tR, u2]
theorem aI_tI1 {S : HS} {a j : Nat} {v : Int32} (z : Nat) : aI (tI S a j v) a z = if z = j then v else aI S a z := by simp [aI, tI, u2]
theorem aJ_tJ1 {S : HS} {a j : Nat} {v : Int64} (z : Nat) : aJ (tJ S a j v) a z = if z = j then v else aJ S a z := by simp [aJ, tJ, u2]
theorem FrX.aR9 {S : HS} {ad : AD} {j : Nat} {v : Option Nat} : FrX S (tR S (ad 9 0) j v) ad := ⟨fun _ => rfl, fun _ _ => rfl, fun _ => rfl, fun f a' h5 h6 => rfl, fun a h => aR_tR2 h, fun _ _ _ => rfl⟩
theorem FrX.aI12 {S : HS} {ad : AD} {j : Nat} {v : Int32} : FrX S (tI S (ad 12 0) j v) ad := ⟨fun _ => rfl, fun _ _ => rfl, fun _ => rfl, fun f a' h5 h6 => rfl, fun _ _ => rfl, fun a h1 h2 => aI_tI2 h1⟩
theorem FrX.rI13 {S : HS} {ad : AD} {r : Nat → Int32} : FrX S (rI S (ad 13 0) r) ad := ⟨fun _ => rfl, fun _ _ => rfl, fun _ => rfl, fun f a' h5 h6 => rfl, fun _ _ => rfl, fun a h1 h2 => aI_rI2 h2⟩
theorem FrX.toA {S T : HS} {ad : AD} {n : Nat} (f : FrX S T ad) (h : XA S ad n) : XA T ad n :=
  ⟨(f.1 _).trans (h.k0),
   (f.1 _).trans (h.k1),
   fun i hi => (f.1 _).trans (h.k2 i hi),
   (f.1 _).trans (h.k3),
   fun i hi => (f.1 _).trans (h.k4 i hi),
   (f.1 _).trans (h.k5),
   fun i hi => (f.1 _).trans (h.k6 i hi),
   fun i hi => (f.1 _).trans (h.k7 i hi),
   (f.1 _).trans (h.k8),
   (f.1 _).trans (h.k9),
   (f.1 _).trans (h.k10),
   fun i hi => (f.1 _).trans (h.k11 i hi),
   (f.1 _).trans (h.k12),
   (f.1 _).trans (h.k13),
   (f.2.1 _ _).trans (h.r28),
   (f.2.1 _ _).trans (h.r29),
   (f.2.1 _ _).trans (h.r31),
   (f.2.1 _ _).trans (h.r33),
   (f.2.1 _ _).trans (h.r7),
   (f.2.1 _ _).trans (h.r8),
   (f.2.1 _ _).trans (h.r10),
   (f.2.1 _ _).trans (h.r11),
   fun i hi => (f.2.1 _ _).trans (h.r26 i hi),
   (f.2.2.1 _).trans (h.n1),
   (f.2.2.1 _).trans (h.n3),
   (f.2.2.1 _).trans (h.n5),
   (f.2.2.1 _).trans (h.n9),
   (f.2.2.1 _).trans (h.n10),
   fun i hi => (f.2.2.1 _).trans (h.n11 i hi),
   (f.2.2.1 _).trans (h.n12),
   (f.2.2.1 _).trans (h.n13),
   fun i hi => (f.2.2.1 _).trans (h.n7 i hi),
   fun i hi => (congrFun (f.2.2.2.2.1 _ (ne_kinds h.k1 h.k9 (by decide))) _).trans (h.a1 i hi),
   fun i hi => (congrFun (f.2.2.2.2.1 _ (ne_kinds h.k3 h.k9 (by decide))) _).trans (h.a3 i hi),
   fun i hi => (congrFun (f.2.2.2.2.1 _ h.j59) _).trans (h.a5 i hi),
   fun i hi => (congrFun (f.2.2.2.2.1 _ (ne_kinds h.k10 h.k9 (by decide))) _).trans (h.a10 i hi),
   h.j2,
   h.j4,
   h.j6,
   h.j7,
   h.j11,
   h.j59,
   h.j12,
   h.hn,
   fun i h1 h2 => (congrFun (f.2.2.2.2.1 _ h.j59) _).trans (h.a5n i h1 h2)⟩
theorem FrX.toV {S T : HS} {ad : AD} {q : AS} (f : FrX S T ad) (h : XA S ad (cn q 1)) (g : XV S ad q) : XV T ad q :=
  ⟨(f.2.2.2.1 _ _ (by decide) (by decide)).trans g.v30,
   (f.2.2.2.1 _ _ (by decide) (by decide)).trans g.v32,
   (f.2.2.2.1 _ _ (by decide) (by decide)).trans g.v39,
   (f.2.2.2.1 _ _ (by decide) (by decide)).trans g.v40,
   (f.2.2.2.1 _ _ (by decide) (by decide)).trans g.v34,
   (f.2.2.2.1 _ _ (by decide) (by decide)).trans g.v35,
   (f.2.2.2.1 _ _ (by decide) (by decide)).trans g.v36,
   (f.2.2.2.1 _ _ (by decide) (by decide)).trans g.v37,
   (f.2.2.2.1 _ _ (by decide) (by decide)).trans g.v38,
   fun i hi => (f.2.2.2.1 _ _ (by decide) (by decide)).trans (g.c0 i hi),
   fun i hi k hk => (f.2.2.2.1 _ _ (by omega) (by omega)).trans (g.c1 i hi k hk),
   fun i hi k hk => (f.2.2.2.1 _ _ (by omega) (by omega)).trans (g.p i hi k hk),
   fun i hi => (f.2.2.2.1 _ _ (by decide) (by decide)).trans (g.t16 i hi),
   fun i hi k hk => (f.2.2.2.1 _ _ (by omega) (by omega)).trans (g.tv i hi k hk),
   fun i hi => (f.2.2.2.1 _ _ (by decide) (by decide)).trans (g.t24 i hi),
   fun i hi => (f.2.2.2.1 _ _ (by decide) (by decide)).trans (g.t25 i hi),
   fun i hi => (f.2.2.2.1 _ _ (by decide) (by decide)).trans (g.t27 i hi),
   fun i hi j hj => (congrFun (f.2.2.2.2.2 _ (ne_kinds (h.k7 i hi) h.k12 (by decide)) (ne_kinds (h.k7 i hi) h.k13 (by decide))) _).trans (g.sg i hi j hj)⟩
/-- the search's rows, made ready: nr reports of lc live tracks -/
def XM (S : HS) (ad : AD) (q : AS) (nr lc : Nat) (lv : Nat → Nat) : Prop := hI S 5 (ad 8 0) = nI nr ∧ hI S 6 (ad 8 0) = nI lc ∧ hJ S 9 (ad 8 0) = lO (gsq q) ∧ (∀ i, i < lc → aR S (ad 9 0) i = some (ad 6 (lv i))) ∧ (∀ r, r < nr → ∀ i, i < lc → aJ S (ad 11 r) i = lO (ctk q r (lv i)))
theorem cntP_lt {p : Nat → Bool} {i n : Nat} (h : i < n) (hp : p i = true) : cntP p i < cntP p n := by
  have h2 := cntP_mono p (show i + 1 ≤ n by omega)
  rw [cntP_t hp] at h2
  omega
set_option maxRecDepth 100000 in
set_option maxHeartbeats 4000000 in
theorem lp_X4_prep1 {l : Launch} {pP : Program} {eE : Env} {sS : State} {mM : MethodId} {aA : Array Value} {bB : List Frame} {tT : Method} {cC : Code} {G : GT} {A : Nat → Prop} {Q : State → Prop}  (S : HS) (ad : AD) (q : AS) (hA : XA S ad (cn q 1)) (hV : XV S ad q) (hB : BI q)  (C : Cx pP l eE (rmD 10 0 0) sS mM aA bB tT cC cX4_prepareMatching 3 RX4 G A) (kk : ∀ T : HS, FrX S T ad ∧ hI T 5 (ad 8 0) = nI 0 ∧ hI T 6 (ad 8 0) = nI (cntP (liveP q) (cn q 1)) ∧ hJ T 9 (ad 8 0) = lO (gsq q) ∧ (∀ j, j < cntP (liveP q) (cn q 1) → aR T (ad 9 0) j = some (ad 6 (lvt (liveP q) (cn q 1) j))) → V pP l eE (rmD 10 0 0) sS mM aA bB tT cC 3 G A T 0 0 Q 48 [(0, .ref (ad 0 0)), (1, .int (nI (cn q 1)))] []) : ∀ (N : Nat) (i : Nat) (T : HS), (hN9 : cn q 1 + 1 ≤ i + N) → (hi : i ≤ cn q 1) → (hinv : FrX S T ad ∧ hI T 5 (ad 8 0) = nI 0 ∧ hI T 6 (ad 8 0) = nI (cntP (liveP q) i) ∧ hJ T 9 (ad 8 0) = lO (gsq q) ∧ (∀ j, j < cntP (liveP q) i → aR T (ad 9 0) j = some (ad 6 (lvt (liveP q) i j)))) → V pP l eE (rmD 10 0 0) sS mM aA bB tT cC 3 G A T 0 0 Q 16 [(0, .ref (ad 0 0)), (1, .int (nI i))] [] := by
  intro N
  induction N with
  | zero =>
    intro i T hN9 hi hinv
    exact absurd hN9 (by omega)
  | succ N ih =>
    intro i T hN9 hi hinv
    obtain ⟨hF, h5, h6, h9, hl⟩ := hinv
    have hAT := hF.toA hA
    have hVT := hF.toV hA hV
    have hn6 := hA.hn
    refine v_iload_n C 1 rfl rfl dX4_prepareMatching_16 ?_
    refine v_aload_n C 0 rfl rfl dX4_prepareMatching_17 ?_
    refine v_getI C (nI (cn q 1)) fl_RX4_184 hAT.k0 hVT.v32 dX4_prepareMatching_18 ?_
    refine v_icmp_ge C 48 (by decide) dX4_prepareMatching_21 (fun c21 => ?_) (fun c21 => ?_)
    · obtain rfl : i = cn q 1 := by have := nge c21 (by omega); omega
      exact V.sub [0, 1] rfl (kk T ⟨hF, h5, h6, h9, hl⟩)
    · have hlt := nlt c21 (by omega)
      by_cases hc : zz q 3 i 7 = 0
      · have hv9 : hI T 24 (ad 6 i) = 1 := by rw [hVT.t24 i hlt]; exact bI1 hc
        refine v_aload_n C 0 rfl rfl dX4_prepareMatching_24 ?_
        refine v_iload_n C 1 rfl rfl dX4_prepareMatching_25 ?_
        refine v_callVq C (st := []) [.int (nI i)] (c_X4_liveTrackAt_y l T ad (cn q 1) i hAT hlt hv9) ml_RX4_187 mi_yX4_liveTrackAt hAT.k0 (by decide) (by decide +kernel) rfl (Nat.le_of_ble_eq_true rfl) (Nat.le_of_ble_eq_true rfl) (Nat.le_of_ble_eq_true rfl) (Nat.le_of_ble_eq_true rfl) (Nat.le_of_ble_eq_true rfl) dX4_prepareMatching_26 (fun r u h => ?_) _ rfl
        obtain ⟨rfl, rfl⟩ := h
        refine v_astore_n C [(2, .ref (ad 6 i)), (0, .ref (ad 0 0)), (1, .int (nI i))] (by decide) rfl rfl dX4_prepareMatching_29 ?_
        refine v_aload_n C 0 rfl rfl dX4_prepareMatching_30 ?_
        refine v_ifnull C dX4_prepareMatching_31 ?_
        refine v_aload_n C 1 rfl rfl dX4_prepareMatching_34 ?_
        refine v_getR C (ad 8 0) fl_RX4_30 hAT.k0 hAT.r33 dX4_prepareMatching_35 ?_
        refine v_aload_n C 0 rfl rfl dX4_prepareMatching_38 ?_
        refine v_callVv C (st := []) [.ref (ad 6 i)] (c_X1_addTrack l T (ad 8 0) (ad 6 i) (ad 9 0) (cntP (liveP q) i) hAT.k8 (hAT.k6 i hlt) hAT.k9 hAT.r7 hAT.n9 h6 (by have := cntP_lt (p := liveP q) hlt (decide_eq_true hc); have := hB.bv; unfold liveP at *; omega)) ml_RX4_190 mi_yX1_addTrack hAT.k8 (by decide) (by decide +kernel) rfl (Nat.le_of_ble_eq_true rfl) (Nat.le_of_ble_eq_true rfl) (Nat.le_of_ble_eq_true rfl) (Nat.le_of_ble_eq_true rfl) (Nat.le_of_ble_eq_true rfl) dX4_prepareMatching_39 (fun u h => ?_) _ rfl
        subst h
        refine v_iinc C (nI (i + 1)) 2 [(1, .int (nI (i + 1))), (2, .ref (ad 6 i)), (0, .ref (ad 0 0))] rfl (by rw [← nI_1]; rfl) (by decide) rfl dX4_prepareMatching_42 ?_
        refine v_goto C 16 (by decide) dX4_prepareMatching_45 ?_
        have hp : liveP q i = true := decide_eq_true hc
        refine V.sub [2, 0] rfl (ih (i + 1) (sI (tR T (ad 9 0) (cntP (liveP q) i) (some (ad 6 i))) 6 (ad 8 0) (nI (cntP (liveP q) i) + 1)) (by omega) (by omega) ⟨hF.tr (FrX.tr FrX.aR9 FrX.I6), (hI_sI2 (fun z => absurd z.1 (by decide))).trans h5, by rw [cntP_t hp, ← nI_1]; exact hI_sI1, h9, ?_⟩)
        intro j hj
        rw [cntP_t hp] at hj
        show aR (tR T (ad 9 0) (cntP (liveP q) i) (some (ad 6 i))) (ad 9 0) j = _
        rw [aR_tR1]
        by_cases hje : j = cntP (liveP q) i
        · rw [if_pos hje, hje, lvt_new hp]
        · rw [if_neg hje, lvt_keep (by omega)]
          exact hl j (by omega)
      · have hv9 : hI T 24 (ad 6 i) = 0 := by rw [hVT.t24 i hlt]; exact bI0 hc
        refine v_aload_n C 0 rfl rfl dX4_prepareMatching_24 ?_
        refine v_iload_n C 1 rfl rfl dX4_prepareMatching_25 ?_
        refine v_callVq C (st := []) [.int (nI i)] (c_X4_liveTrackAt_d l T ad (cn q 1) i hAT hlt hv9) ml_RX4_187 mi_yX4_liveTrackAt hAT.k0 (by decide) (by decide +kernel) rfl (Nat.le_of_ble_eq_true rfl) (Nat.le_of_ble_eq_true rfl) (Nat.le_of_ble_eq_true rfl) (Nat.le_of_ble_eq_true rfl) (Nat.le_of_ble_eq_true rfl) dX4_prepareMatching_26 (fun r u h => ?_) _ rfl
        obtain ⟨rfl, rfl⟩ := h
        refine v_astore_nN C [(2, .null), (0, .ref (ad 0 0)), (1, .int (nI i))] (by decide) rfl rfl dX4_prepareMatching_29 ?_
        refine v_aload_nN C 0 rfl rfl dX4_prepareMatching_30 ?_
        refine v_ifnullN C 42 (by decide) dX4_prepareMatching_31 ?_
        refine v_iinc C (nI (i + 1)) 2 [(1, .int (nI (i + 1))), (2, .null), (0, .ref (ad 0 0))] rfl (by rw [← nI_1]; rfl) (by decide) rfl dX4_prepareMatching_42 ?_
        refine v_goto C 16 (by decide) dX4_prepareMatching_45 ?_
        exact V.sub [2, 0] rfl (ih (i + 1) T (by omega) (by omega) ⟨hF, h5, by rw [cntP_f (decide_eq_false hc)]; exact h6, h9, by rw [cntP_f (decide_eq_false hc)]; exact fun j hj => by rw [lvt_keep hj]; exact hl j hj⟩)
set_option maxRecDepth 100000 in
set_option maxHeartbeats 4000000 in
theorem lp_X4_fillCosts {l : Launch} {pP : Program} {eE : Env} {sS : State} {mM : MethodId} {aA : Array Value} {bB : List Frame} {tT : Method} {cC : Code} {G : GT} {A : Nat → Prop} {Q : State → Prop}  (S : HS) (ad : AD) (q : AS) (hA : XA S ad (cn q 1)) (hV : XV S ad q) (hB : BI q) (r : Nat) (hr : r < cn q 0) (C : Cx pP l eE (rmD 9 0 0) sS mM aA bB tT cC cX4_fillCosts 5 RX4 G A) (kk : ∀ T : HS, FrX S T ad → XM T ad q (r + 1) (cntP (liveP q) (cn q 1)) (lvt (liveP q) (cn q 1)) → V pP l eE (rmD 9 0 0) sS mM aA bB tT cC 5 G A T 0 0 Q 50 [(0, .ref (ad 0 0)), (1, .int (nI r)), (2, .ref (ad 4 r)), (3, .int (nI (cntP (liveP q) (cn q 1))))] []) : ∀ (N : Nat) (t : Nat) (T : HS), (hN9 : (cntP (liveP q) (cn q 1)) + 1 ≤ t + N) → (hi : t ≤ (cntP (liveP q) (cn q 1))) → (hinv : FrX S T ad ∧ hI T 5 (ad 8 0) = nI (r + 1) ∧ hI T 6 (ad 8 0) = nI (cntP (liveP q) (cn q 1)) ∧ hJ T 9 (ad 8 0) = lO (gsq q) ∧ (∀ i, i < (cntP (liveP q) (cn q 1)) → aR T (ad 9 0) i = some (ad 6 (lvt (liveP q) (cn q 1) i))) ∧ (∀ r0, r0 < r → ∀ i, i < (cntP (liveP q) (cn q 1)) → aJ T (ad 11 r0) i = lO (ctk q r0 (lvt (liveP q) (cn q 1) i))) ∧ (∀ i, i < t → aJ T (ad 11 r) i = lO (ctk q r (lvt (liveP q) (cn q 1) i)))) → V pP l eE (rmD 9 0 0) sS mM aA bB tT cC 5 G A T 0 0 Q 2 [(0, .ref (ad 0 0)), (1, .int (nI r)), (2, .ref (ad 4 r)), (3, .int (nI t))] [] := by
  intro N
  induction N with
  | zero =>
    intro t T hN9 hi hinv
    exact absurd hN9 (by omega)
  | succ N ih =>
    intro t T hN9 hi hinv
    obtain ⟨hF, h5, h6, h9, hl, hrows, hrow⟩ := hinv
    have hAT := hF.toA hA
    have hVT := hF.toV hA hV
    have h04 := hB.b0
    have hb6 : (cntP (liveP q) (cn q 1)) ≤ 6 := hB.bv
    refine v_iload_n C 3 rfl rfl dX4_fillCosts_2 ?_
    refine v_aload_n C 0 rfl rfl dX4_fillCosts_3 ?_
    refine v_getR C (ad 8 0) fl_RX4_30 hAT.k0 hAT.r33 dX4_fillCosts_4 ?_
    refine v_getI C (nI (cntP (liveP q) (cn q 1))) fl_RX4_201 hAT.k8 h6 dX4_fillCosts_7 ?_
    refine v_icmp_ge C 50 (by decide) dX4_fillCosts_10 (fun c10 => ?_) (fun c10 => ?_)
    · obtain rfl : t = (cntP (liveP q) (cn q 1)) := by have := nge c10 (by omega); omega
      refine V.sub [0, 1, 2, 3] rfl (kk T hF ⟨h5, h6, h9, hl, fun r0 hr0 i hi0 => ?_⟩)
      rcases Nat.lt_or_ge r0 r with z | z
      · exact hrows r0 z i hi0
      · obtain rfl : r0 = r := by omega
        exact hrow i hi0
    · have hlt := nlt c10 (by omega)
      have hls := lvt_spec hlt
      refine v_aload_n C 0 rfl rfl dX4_fillCosts_13 ?_
      refine v_getR C (ad 8 0) fl_RX4_30 hAT.k0 hAT.r33 dX4_fillCosts_14 ?_
      refine v_iload_n C 3 rfl rfl dX4_fillCosts_17 ?_
      refine v_callVq C (st := []) [.int (nI t)] (c_X1_trackAt_y l T (ad 8 0) (ad 9 0) (cntP (liveP q) (cn q 1)) t hAT.k8 hAT.k9 hAT.r7 hAT.n9 h6 hb6 hlt) ml_RX4_204 mi_yX1_trackAt hAT.k8 (by decide) (by decide +kernel) rfl (Nat.le_of_ble_eq_true rfl) (Nat.le_of_ble_eq_true rfl) (Nat.le_of_ble_eq_true rfl) (Nat.le_of_ble_eq_true rfl) (Nat.le_of_ble_eq_true rfl) dX4_fillCosts_18 (fun r u h => ?_) _ rfl
      obtain ⟨hz, rfl⟩ := h
      rw [hl t hlt] at hz
      subst hz
      refine v_astore C [(4, .ref (ad 6 (lvt (liveP q) (cn q 1) t))), (0, .ref (ad 0 0)), (1, .int (nI r)), (2, .ref (ad 4 r)), (3, .int (nI t))] (by decide) rfl dX4_fillCosts_21 ?_
      refine v_aload C 0 rfl dX4_fillCosts_23 ?_
      refine v_ifnull C dX4_fillCosts_25 ?_
      refine v_aload_n C 1 rfl rfl dX4_fillCosts_28 ?_
      refine v_getR C (ad 8 0) fl_RX4_30 hAT.k0 hAT.r33 dX4_fillCosts_29 ?_
      refine v_iload_n C 2 rfl rfl dX4_fillCosts_32 ?_
      refine v_iload_n C 4 rfl rfl dX4_fillCosts_33 ?_
      refine v_aload_n C 1 rfl rfl dX4_fillCosts_34 ?_
      refine v_aload_n C 3 rfl rfl dX4_fillCosts_35 ?_
      refine v_aload C 0 rfl dX4_fillCosts_36 ?_
      refine v_callVl C (st := [.int (nI t), .int (nI r), .ref (ad 8 0)]) [.ref (ad 4 r), .ref (ad 6 (lvt (liveP q) (cn q 1) t))] (c_X4_costOfTaking l T ad q r (lvt (liveP q) (cn q 1) t) hAT hVT hB hr hls.1) ml_RX4_141 mi_yX4_costOfTaking hAT.k0 (by decide) (by decide +kernel) rfl (Nat.le_of_ble_eq_true rfl) (Nat.le_of_ble_eq_true rfl) (Nat.le_of_ble_eq_true rfl) (Nat.le_of_ble_eq_true rfl) (Nat.le_of_ble_eq_true rfl) dX4_fillCosts_38 (fun r u h => ?_) _ rfl
      obtain ⟨rfl, rfl⟩ := h
      refine v_callVv C (st := []) [.int (nI r), .int (nI t), .long (lO (ctk q r (lvt (liveP q) (cn q 1) t)))] (c_X1_putCost l T (ad 8 0) (ad 10 0) (ad 11 r) r t (lO (ctk q r (lvt (liveP q) (cn q 1) t))) hAT.k8 hAT.k10 (hAT.k11 r (by omega)) hAT.r8 hAT.n10 (hAT.n11 r (by omega)) (hAT.a10 r (by omega)) (by omega) (by omega)) ml_RX4_207 mi_yX1_putCost hAT.k8 (by decide) (by decide +kernel) rfl (Nat.le_of_ble_eq_true rfl) (Nat.le_of_ble_eq_true rfl) (Nat.le_of_ble_eq_true rfl) (Nat.le_of_ble_eq_true rfl) (Nat.le_of_ble_eq_true rfl) dX4_fillCosts_41 (fun u h => ?_) _ rfl
      subst h
      refine v_iinc C (nI (t + 1)) 4 [(3, .int (nI (t + 1))), (4, .ref (ad 6 (lvt (liveP q) (cn q 1) t))), (0, .ref (ad 0 0)), (1, .int (nI r)), (2, .ref (ad 4 r))] rfl (by rw [← nI_1]; rfl) (by decide) rfl dX4_fillCosts_44 ?_
      refine v_goto C 2 (by decide) dX4_fillCosts_47 ?_
      refine V.sub [2, 3, 4, 0] rfl (ih (t + 1) (tJ T (ad 11 r) t (lO (ctk q r (lvt (liveP q) (cn q 1) t)))) (by omega) (by omega) ⟨hF.tr FrX.aJ, h5, h6, h9, hl, ?_, ?_⟩)
      · intro r0 hr0 i hi0
        rw [aJ_tJ2 (fun z => absurd (hAT.j11 r0 (by omega) r (by omega) z) (by omega))]
        exact hrows r0 hr0 i hi0
      · intro i hi0
        rw [aJ_tJ1]
        by_cases hit : i = t
        · rw [if_pos hit, hit]
        · rw [if_neg hit]
          exact hrow i (by omega)
set_option maxRecDepth 100000 in
set_option maxHeartbeats 4000000 in
theorem c_X4_fillCosts (l : Launch) (S : HS) (ad : AD) (q : AS) (hA : XA S ad (cn q 1)) (hV : XV S ad q) (hB : BI q) (r : Nat) (hr : r < cn q 0) (hx5 : hI S 5 (ad 8 0) = nI (r + 1)) (hx6 : hI S 6 (ad 8 0) = nI (cntP (liveP q) (cn q 1))) (hx9 : hJ S 9 (ad 8 0) = lO (gsq q)) (hxl : ∀ i, i < (cntP (liveP q) (cn q 1)) → aR S (ad 9 0) i = some (ad 6 (lvt (liveP q) (cn q 1) i))) (hxr : ∀ r0, r0 < r → ∀ i, i < (cntP (liveP q) (cn q 1)) → aJ S (ad 11 r0) i = lO (ctk q r0 (lvt (liveP q) (cn q 1) i))) : cM l yX4_fillCosts cX4_fillCosts 5 (Option.none : Option Jvm.ClassFile.FieldType) 9 [.ref (ad 0 0), .int (nI r), .ref (ad 4 r)] S (pV fun u => FrX S u ad ∧ XM u ad q (r + 1) (cntP (liveP q) (cn q 1)) (lvt (liveP q) (cn q 1))) 0 0 := by
  refine cM_intro (by decide +kernel) cd_X4_fillCosts (Nat.le_of_ble_eq_true rfl) ?_
  intro pP eE sS mM aA bB tT cC G A C hRT hin
  refine V.lvs (lv2 := [(0, .ref (ad 0 0)), (1, .int (nI r)), (2, .ref (ad 4 r))]) rfl ?_
  refine v_iconst C 0 (by decide) dX4_fillCosts_0 ?_
  refine v_istore_n C [(3, .int 0), (0, .ref (ad 0 0)), (1, .int (nI r)), (2, .ref (ad 4 r))] (by decide) rfl rfl dX4_fillCosts_1 ?_
  refine V.sub [1, 2, 3, 0] rfl (lp_X4_fillCosts S ad q hA hV hB r hr C (fun T2 hF2 hX2 => ?_) ((cntP (liveP q) (cn q 1)) + 1) 0 S (by omega) (by omega) ⟨FrX.rf, hx5, hx6, hx9, hxl, hxr, fun i hi0 => by omega⟩)
  exact v_vret C hRT (Nat.le_of_ble_eq_true rfl) (Nat.le_of_ble_eq_true rfl) dX4_fillCosts_50 ⟨rfl, hF2, hX2⟩
set_option maxRecDepth 100000 in
set_option maxHeartbeats 4000000 in
theorem lp_X4_prep2 {l : Launch} {pP : Program} {eE : Env} {sS : State} {mM : MethodId} {aA : Array Value} {bB : List Frame} {tT : Method} {cC : Code} {G : GT} {A : Nat → Prop} {Q : State → Prop}  (S : HS) (ad : AD) (q : AS) (hA : XA S ad (cn q 1)) (hV : XV S ad q) (hB : BI q)  (C : Cx pP l eE (rmD 10 0 0) sS mM aA bB tT cC cX4_prepareMatching 3 RX4 G A) (kk : ∀ T : HS, FrX S T ad ∧ XM T ad q (cn q 0) (cntP (liveP q) (cn q 1)) (lvt (liveP q) (cn q 1)) → V pP l eE (rmD 10 0 0) sS mM aA bB tT cC 3 G A T 0 0 Q 87 [(0, .ref (ad 0 0)), (1, .int (nI (cn q 0)))] []) : ∀ (N : Nat) (r : Nat) (T : HS), (hN9 : cn q 0 + 1 ≤ r + N) → (hi : r ≤ cn q 0) → (hinv : FrX S T ad ∧ XM T ad q r (cntP (liveP q) (cn q 1)) (lvt (liveP q) (cn q 1))) → V pP l eE (rmD 10 0 0) sS mM aA bB tT cC 3 G A T 0 0 Q 50 [(0, .ref (ad 0 0)), (1, .int (nI r))] [] := by
  intro N
  induction N with
  | zero =>
    intro r T hN9 hi hinv
    exact absurd hN9 (by omega)
  | succ N ih =>
    intro r T hN9 hi hinv
    obtain ⟨hF, hX⟩ := hinv
    have hAT := hF.toA hA
    have hVT := hF.toV hA hV
    have h04 := hB.b0
    refine v_iload_n C 1 rfl rfl dX4_prepareMatching_50 ?_
    refine v_aload_n C 0 rfl rfl dX4_prepareMatching_51 ?_
    refine v_getI C (nI (cn q 0)) fl_RX4_93 hAT.k0 hVT.v30 dX4_prepareMatching_52 ?_
    refine v_icmp_ge C 87 (by decide) dX4_prepareMatching_55 (fun c55 => ?_) (fun c55 => ?_)
    · obtain rfl : r = cn q 0 := by have := nge c55 (by omega); omega
      exact V.sub [0, 1] rfl (kk T ⟨hF, hX⟩)
    · have hlt := nlt c55 (by omega)
      refine v_aload_n C 0 rfl rfl dX4_prepareMatching_58 ?_
      refine v_iload_n C 1 rfl rfl dX4_prepareMatching_59 ?_
      refine v_callVq C (st := []) [.int (nI r)] (c_X4_rowAt_y l T ad (cn q 1) r hAT (by omega)) ml_RX4_96 mi_yX4_rowAt hAT.k0 (by decide) (by decide +kernel) rfl (Nat.le_of_ble_eq_true rfl) (Nat.le_of_ble_eq_true rfl) (Nat.le_of_ble_eq_true rfl) (Nat.le_of_ble_eq_true rfl) (Nat.le_of_ble_eq_true rfl) dX4_prepareMatching_60 (fun r u h => ?_) _ rfl
      obtain ⟨rfl, rfl⟩ := h
      refine v_astore_n C [(2, .ref (ad 4 r)), (0, .ref (ad 0 0)), (1, .int (nI r))] (by decide) rfl rfl dX4_prepareMatching_63 ?_
      refine v_aload_n C 0 rfl rfl dX4_prepareMatching_64 ?_
      refine v_ifnull C dX4_prepareMatching_65 ?_
      refine v_aload_n C 1 rfl rfl dX4_prepareMatching_68 ?_
      refine v_getR C (ad 8 0) fl_RX4_30 hAT.k0 hAT.r33 dX4_prepareMatching_69 ?_
      refine v_callVv C (st := []) [] (c_X1_addReport l T (ad 8 0) r hAT.k8 hX.1 (by omega)) ml_RX4_194 mi_yX1_addReport hAT.k8 (by decide) (by decide +kernel) rfl (Nat.le_of_ble_eq_true rfl) (Nat.le_of_ble_eq_true rfl) (Nat.le_of_ble_eq_true rfl) (Nat.le_of_ble_eq_true rfl) (Nat.le_of_ble_eq_true rfl) dX4_prepareMatching_72 (fun u h => ?_) _ rfl
      subst h
      have hF5 : FrX S (sI T 5 (ad 8 0) (nI r + 1)) ad := hF.tr FrX.I5
      refine v_aload_n C 1 rfl rfl dX4_prepareMatching_75 ?_
      refine v_iload_n C 2 rfl rfl dX4_prepareMatching_76 ?_
      refine v_aload_n C 0 rfl rfl dX4_prepareMatching_77 ?_
      refine v_callVv C (st := []) [.int (nI r), .ref (ad 4 r)] (c_X4_fillCosts l (sI T 5 (ad 8 0) (nI r + 1)) ad q (hF5.toA hA) (hF5.toV hA hV) hB r hlt (by rw [nI_1]; exact hI_sI1) ((hI_sI2 (fun z => absurd z.1 (by decide))).trans hX.2.1) hX.2.2.1 hX.2.2.2.1 hX.2.2.2.2) ml_RX4_197 mi_yX4_fillCosts (hF5.toA hA).k0 (by decide) (by decide +kernel) rfl (Nat.le_of_ble_eq_true rfl) (Nat.le_of_ble_eq_true rfl) (Nat.le_of_ble_eq_true rfl) (Nat.le_of_ble_eq_true rfl) (Nat.le_of_ble_eq_true rfl) dX4_prepareMatching_78 (fun T2 h => ?_) _ rfl
      obtain ⟨hF2, hX2⟩ := h
      refine v_iinc C (nI (r + 1)) 2 [(1, .int (nI (r + 1))), (2, .ref (ad 4 r)), (0, .ref (ad 0 0))] rfl (by rw [← nI_1]; rfl) (by decide) rfl dX4_prepareMatching_81 ?_
      refine v_goto C 50 (by decide) dX4_prepareMatching_84 ?_
      exact V.sub [2, 0] rfl (ih (r + 1) T2 (by omega) (by omega) ⟨hF.tr (FrX.I5.tr hF2), hX2⟩)
set_option maxRecDepth 100000 in
set_option maxHeartbeats 4000000 in
theorem c_X4_prepareMatching (l : Launch) (S : HS) (ad : AD) (q : AS) (hA : XA S ad (cn q 1)) (hV : XV S ad q) (hB : BI q)  : cM l yX4_prepareMatching cX4_prepareMatching 3 (Option.none : Option Jvm.ClassFile.FieldType) 10 [.ref (ad 0 0)] S (pV fun u => FrX S u ad ∧ XM u ad q (cn q 0) (cntP (liveP q) (cn q 1)) (lvt (liveP q) (cn q 1))) 0 0 := by
  refine cM_intro (by decide +kernel) cd_X4_prepareMatching (Nat.le_of_ble_eq_true rfl) ?_
  intro pP eE sS mM aA bB tT cC G A C hRT hin
  refine V.lvs (lv2 := [(0, .ref (ad 0 0))]) rfl ?_
  refine v_aload_n C 0 rfl rfl dX4_prepareMatching_0 ?_
  refine v_getR C (ad 8 0) fl_RX4_30 hA.k0 hA.r33 dX4_prepareMatching_1 ?_
  refine v_aload_n C 0 rfl rfl dX4_prepareMatching_4 ?_
  refine v_getI C (iO (zz q 0 0 0)) fl_RX4_34 hA.k0 hV.v34 dX4_prepareMatching_5 ?_
  refine v_callSl C (st := [.ref (ad 8 0)]) [.int (iO (zz q 0 0 0))] (c_X4_squareOfSixteenths l S (iO (zz q 0 0 0))) ml_RX4_170 ms_yX4_squareOfSixteenths rfl (Nat.le_of_ble_eq_true rfl) (Nat.le_of_ble_eq_true rfl) (Nat.le_of_ble_eq_true rfl) (Nat.le_of_ble_eq_true rfl) (Nat.le_of_ble_eq_true rfl) dX4_prepareMatching_8 (fun r u h => ?_) _ rfl
  obtain ⟨rfl, rfl⟩ := h
  rw [gs_O hB]
  refine v_callVv C (st := []) [.long (lO (gsq q))] (c_X1_clear l S (ad 8 0) (lO (gsq q)) hA.k8) ml_RX4_180 mi_yX1_clear hA.k8 (by decide) (by decide +kernel) rfl (Nat.le_of_ble_eq_true rfl) (Nat.le_of_ble_eq_true rfl) (Nat.le_of_ble_eq_true rfl) (Nat.le_of_ble_eq_true rfl) (Nat.le_of_ble_eq_true rfl) dX4_prepareMatching_11 (fun u h => ?_) _ rfl
  subst h
  refine v_iconst C 0 (by decide) dX4_prepareMatching_14 ?_
  refine v_istore_n C [(1, .int 0), (0, .ref (ad 0 0))] (by decide) rfl rfl dX4_prepareMatching_15 ?_
  refine V.sub [1, 0] rfl (lp_X4_prep1 S ad q hA hV hB C (fun T1 hT1 => ?_) (cn q 1 + 1) 0 (sJ (sI (sI S 5 (ad 8 0) 0) 6 (ad 8 0) 0) 9 (ad 8 0) (lO (gsq q))) (by omega) (by omega) ⟨(FrX.tr FrX.I5 FrX.I6).tr FrX.J, (show hI (sI (sI S 5 (ad 8 0) 0) 6 (ad 8 0) 0) 5 (ad 8 0) = nI 0 from (hI_sI2 (fun z => absurd z.1 (by decide))).trans hI_sI1), (show hI (sI (sI S 5 (ad 8 0) 0) 6 (ad 8 0) 0) 6 (ad 8 0) = nI 0 from hI_sI1), by simp [hJ, sJ, u2], fun j hj => by exact absurd hj (Nat.not_lt_zero j)⟩)
  obtain ⟨hF1, h15, h16, h19, h1l⟩ := hT1
  refine v_iconst C 0 (by decide) dX4_prepareMatching_48 ?_
  refine v_istore_n C [(1, .int 0), (0, .ref (ad 0 0))] (by decide) rfl rfl dX4_prepareMatching_49 ?_
  refine V.sub [1, 0] rfl (lp_X4_prep2 S ad q hA hV hB C (fun T2 hT2 => ?_) (cn q 0 + 1) 0 T1 (by omega) (by omega) ⟨hF1, h15, h16, h19, h1l, fun r hr0 => by exact absurd hr0 (Nat.not_lt_zero r)⟩)
  obtain ⟨hF2, hX2⟩ := hT2
  exact v_vret C hRT (Nat.le_of_ble_eq_true rfl) (Nat.le_of_ble_eq_true rfl) dX4_prepareMatching_87 ⟨rfl, hF2, hX2⟩
