theorem XA.of {S T : HS} {ad : AD} {n : Nat} (h1 : hK T = hK S) (h2 : hR T = hR S) (h3 : hN T = hN S) (h4 : aR T = aR S) (h : XA S ad n) : XA T ad n := by
  unfold XA at *
  rw [h1, h2, h3, h4]
  exact h
/-- all but one track stays -/
def FrT (S T : HS) (ad : AD) (t : Nat) : Prop := (∀ a, hK T a = hK S a) ∧ (∀ f a, hR T f a = hR S f a) ∧ (∀ a, hN T a = hN S a) ∧ (∀ f a, (f < 17 ∨ a ≠ ad 6 t) → hI T f a = hI S f a) ∧ (∀ a, aR T a = aR S a) ∧ (∀ a, a ≠ ad 7 t → aI T a = aI S a) ∧ (∀ a, aJ T a = aJ S a) ∧ (∀ f a, hJ T f a = hJ S f a)
theorem FrT.rf {S : HS} {ad : AD} {t : Nat} : FrT S S ad t := ⟨fun _ => rfl, fun _ _ => rfl, fun _ => rfl, fun _ _ _ => rfl, fun _ => rfl, fun _ _ => rfl, fun _ => rfl, fun _ _ => rfl⟩
theorem FrT.tr {S T U : HS} {ad : AD} {t : Nat} (h : FrT S T ad t) (g : FrT T U ad t) : FrT S U ad t := ⟨fun a => (g.1 a).trans (h.1 a), fun f a => (g.2.1 f a).trans (h.2.1 f a), fun a => (g.2.2.1 a).trans (h.2.2.1 a), fun f a x => (g.2.2.2.1 f a x).trans (h.2.2.2.1 f a x), fun a => (g.2.2.2.2.1 a).trans (h.2.2.2.2.1 a), fun a x => (g.2.2.2.2.2.1 a x).trans (h.2.2.2.2.2.1 a x), fun a => (g.2.2.2.2.2.2.1 a).trans (h.2.2.2.2.2.2.1 a), fun f a => (g.2.2.2.2.2.2.2 f a).trans (h.2.2.2.2.2.2.2 f a)⟩
theorem FrT.I {S : HS} {ad : AD} {t f : Nat} {v : Int32} (hf : 17 ≤ f) : FrT S (sI S f (ad 6 t) v) ad t := ⟨fun _ => rfl, fun _ _ => rfl, fun _ => rfl, fun f' a h => hI_sI2 (fun z => by rcases h with h | h; exact absurd z.1 (by omega); exact h z.2), fun _ => rfl, fun _ _ => rfl, fun _ => rfl, fun _ _ => rfl⟩
theorem FrT.A {S : HS} {ad : AD} {t j : Nat} {v : Int32} : FrT S (tI S (ad 7 t) j v) ad t := ⟨fun _ => rfl, fun _ _ => rfl, fun _ => rfl, fun _ _ _ => rfl, fun _ => rfl, fun a h => aI_tI2 h, fun _ => rfl, fun _ _ => rfl⟩
theorem FrT.nt {S : HS} {ad : AD} {t m : Nat} {x : Int32} : FrT S (noteS S (ad 6 t) (ad 7 t) m x) ad t := FrT.tr FrT.A (FrT.I (by decide))
theorem FrT.flw {S : HS} {ad : AD} {t m h1 : Nat} {g sl : Int32} : FrT S (followS S (ad 6 t) h1 (ad 7 t) m g sl) ad t := by
  unfold followS
  exact FrT.tr (FrT.tr (FrT.tr (FrT.tr (FrT.tr (FrT.tr (FrT.tr (FrT.I (by decide)) (FrT.I (by decide))) (FrT.I (by decide))) (FrT.I (by decide))) (FrT.I (by decide))) (FrT.I (by decide))) (FrT.I (by decide))) FrT.nt
theorem FrT.mss {S : HS} {ad : AD} {t m : Nat} {lim : Int32} : FrT S (missS S (ad 6 t) (ad 7 t) m lim) ad t := by
  unfold missS
  split
  · exact FrT.tr (FrT.I (by decide)) FrT.nt
  · exact FrT.tr (FrT.tr (FrT.tr (FrT.I (by decide)) FrT.nt) (FrT.I (by decide))) FrT.nt
theorem FrT.toA {S T : HS} {ad : AD} {n t : Nat} (f : FrT S T ad t) (h : XA S ad n) : XA T ad n := h.of (funext f.1) (funext fun x => funext (f.2.1 x)) (funext f.2.2.1) (funext f.2.2.2.2.1)
theorem XV.trk {S T : HS} {ad : AD} {q q' : AS} {t : Nat} (hA : XA S ad (cn q 1)) (hV : XV S ad q) (f : FrT S T ad t) (hq : QT q q' t) (ht : t < cn q 1)
    (v : ∀ k, k < 7 → hI T (17 + k) (ad 6 t) = iO (zz q' 3 t k)) (v24 : hI T 24 (ad 6 t) = bI (zz q' 3 t 7 = 0)) (v25 : hI T 25 (ad 6 t) = if zz q' 3 t 7 = 2 then iO (zz q' 3 t 8) else -1) (v27 : hI T 27 (ad 6 t) = nI (cn q' (100 + t))) (vs : ∀ j, j < cn q' (100 + t) → aI T (ad 7 t) j = iO (zz q' 4 t j)) : XV T ad q' := by
  have e1 : ∀ k, k < 100 → cn q' k = cn q k := fun k hk => hq.1 k (by omega)
  have e2 : ∀ i, i < 3 → ∀ j k, zz q' i j k = zz q i j k := fun i hi j k => hq.2 i j k (by omega)
  have r0 : ad 0 0 ≠ ad 6 t := ne_kinds hA.k0 (hA.k6 t ht) (by decide)
  have rt : ∀ i, i < cn q 1 → i ≠ t → ad 6 i ≠ ad 6 t := fun i hi h z => h (hA.j6 i hi t ht z)
  have ra : ∀ i, i < cn q 1 → i ≠ t → ad 7 i ≠ ad 7 t := fun i hi h z => h (hA.j7 i hi t ht z)
  have rw0 : ∀ g, hI T g (ad 0 0) = hI S g (ad 0 0) := fun g => f.2.2.2.1 g _ (Or.inr r0)
  have rwl : ∀ g, g < 17 → ∀ a, hI T g a = hI S g a := fun g hg a => f.2.2.2.1 g _ (Or.inl hg)
  refine ⟨by rw [rw0, e1 0 (by decide)]; exact hV.v30, by rw [rw0, e1 1 (by decide)]; exact hV.v32, by rw [rw0, e1 2 (by decide)]; exact hV.v39, by rw [rw0, e1 3 (by decide)]; exact hV.v40, by rw [rw0, e2 0 (by decide)]; exact hV.v34, by rw [rw0, e2 0 (by decide)]; exact hV.v35, by rw [rw0, e2 0 (by decide)]; exact hV.v36, by rw [rw0, e2 0 (by decide)]; exact hV.v37, by rw [rw0, e2 0 (by decide)]; exact hV.v38,
    fun i hi => by rw [rwl 0 (by decide), e1 _ (by omega)]; exact hV.c0 i hi, fun i hi k hk => by rw [rwl _ (by omega), e2 1 (by decide)]; exact hV.c1 i hi k hk, fun i hi k hk => by rw [rwl _ (by omega), e2 2 (by decide)]; exact hV.p i hi k hk,
    fun i hi => by rw [e1 1 (by decide)] at hi; rw [rwl _ (by decide)]; exact hV.t16 i hi, fun i hi k hk => ?_, fun i hi => ?_, fun i hi => ?_, fun i hi => ?_, fun i hi j hj => ?_⟩
  all_goals (rw [e1 1 (by decide)] at hi; by_cases h : i = t)
  · rw [h]; exact v k hk
  · rw [f.2.2.2.1 _ _ (Or.inr (rt i hi h)), hq.2 3 i k (fun z => h z.2)]; exact hV.tv i hi k hk
  · rw [h]; exact v24
  · rw [f.2.2.2.1 _ _ (Or.inr (rt i hi h)), hq.2 3 i 7 (fun z => h z.2)]; exact hV.t24 i hi
  · rw [h]; exact v25
  · rw [f.2.2.2.1 _ _ (Or.inr (rt i hi h)), hq.2 3 i 7 (fun z => h z.2), hq.2 3 i 8 (fun z => h z.2)]; exact hV.t25 i hi
  · rw [h]; exact v27
  · rw [f.2.2.2.1 _ _ (Or.inr (rt i hi h)), hq.1 _ (by omega)]; exact hV.t27 i hi
  · rw [h] at hj ⊢; exact vs j hj
  · rw [hq.1 _ (by omega)] at hj
    rw [f.2.2.2.2.2.1 _ (ra i hi h), hq.2 4 i j (fun z => h z.2)]; exact hV.sg i hi j hj
theorem hI_sI (S : HS) (f a : Nat) (v : Int32) (f' a' : Nat) : hI (sI S f a v) f' a' = if f' = f ∧ a' = a then v else hI S f' a' := rfl
theorem hI_tI (S : HS) (b j : Nat) (v : Int32) (f' a' : Nat) : hI (tI S b j v) f' a' = hI S f' a' := rfl
theorem aI_sI (S : HS) (f a : Nat) (v : Int32) (b : Nat) : aI (sI S f a v) b = aI S b := rfl
theorem pushF_O {v w d : Int} (hv : bd v (-1600) 1600) (hw : bd w (-128000) 128000) (hd : bd d 0 60000) : pushF (iO v) (iO w) (iO d) = iO (if 0 < d then clampV (v + w.tdiv (16 * d)) else v) := by
  unfold pushF
  rw [show (16 : Int32) = iO 16 from rfl, iO_mul, show (0 : Int32) = iO 0 from rfl]
  by_cases h : 0 < d
  · have ht := tdiv_bd (a := w) (b := 16 * d) (M := 128000) hw (by omega)
    rw [if_pos ((iO_lt (by decide) (by decide) (by unfold bd at hd; omega) (by unfold bd at hd; omega)).mpr (by omega)), if_pos h, iO_div (by unfold bd at *; omega) (by unfold bd at *; omega) (by unfold bd at *; omega) (by unfold bd at *; omega) (by omega), iO_add]
    unfold clampV
    dsimp only
    have hx : bd (v + w.tdiv (16 * d)) (-200000) 200000 := by unfold bd at *; omega
    revert hx
    generalize v + w.tdiv (16 * d) = x
    intro hx
    have h16 : (1600 : Int32) = iO 1600 := rfl
    have hm16 : (-1600 : Int32) = iO (-1600) := rfl
    have a1 : (iO x < 1600) ↔ x < 1600 := by rw [h16]; exact iO_lt (by unfold bd at *; omega) (by unfold bd at *; omega) (by decide) (by decide)
    by_cases c1 : x < 1600
    · rw [if_pos (a1.mpr c1), if_pos c1]
      have a2 : (-1600 < iO x) ↔ -1600 < x := by rw [hm16]; exact iO_lt (by decide) (by decide) (by unfold bd at *; omega) (by unfold bd at *; omega)
      by_cases c2 : -1600 < x
      · rw [if_pos (a2.mpr c2), if_pos c2]
      · rw [if_neg (fun z => c2 (a2.mp z)), if_neg c2]; rfl
    · rw [if_neg (fun z => c1 (a1.mp z)), if_neg c1]
      rfl
  · rw [if_neg (fun z => h (by have := (iO_lt (by decide) (by decide) (by unfold bd at hd; omega) (by unfold bd at hd; omega)).mp z; omega)), if_neg h]
theorem vs_nt {S : HS} {ad : AD} {q : AS} {t m : Nat} {x : Int32} {z : Int} (hm : m = cn q (100 + t)) (hx : x = iO z) (h : ∀ j, j < cn q (100 + t) → aI S (ad 7 t) j = iO (zz q 4 t j)) (j : Nat) (hj : j < cn q (100 + t) + 1) : aI (noteS S (ad 6 t) (ad 7 t) m x) (ad 7 t) j = iO (zz (ntA q t z) 4 t j) := by
  show aI (tI S (ad 7 t) m x) (ad 7 t) j = _
  rw [aI_tI1, zz_nt, hm]
  by_cases h2 : j = cn q (100 + t)
  · rw [if_pos h2, if_pos ⟨rfl, rfl, h2⟩, hx]
  · rw [if_neg h2, if_neg (fun z => h2 z.2.2)]
    exact h j (by omega)
theorem XV.flw {S : HS} {ad : AD} {q : AS} {r t : Nat} (hA : XA S ad (cn q 1)) (hV : XV S ad q) (hB : BI q) (hr : r < cn q 0) (ht : t < cn q 1) (hc : 0 ≤ ctk q r t) :
    XV (followS S (ad 6 t) (ad 4 r) (ad 7 t) (cn q (100 + t)) (iO (zz q 0 0 1)) (iO (zz q 0 0 2))) ad (flwA q r t) := by
  have h4 := hB.b0
  obtain ⟨c1, c2, c3⟩ := ctk_rsd hB hc
  obtain ⟨t0, t1, t2, t3, t4⟩ := hB.bt t ht
  have hr0 := (hB.br r hr).1
  have hg := hB.g1
  have hs := hB.g2
  have p0 : hI S 13 (ad 4 r) = iO (zz q 2 r 0) := hV.p r (by omega) 0 (by decide)
  have p1 : hI S 14 (ad 4 r) = iO (zz q 2 r 1) := hV.p r (by omega) 1 (by decide)
  have p2 : hI S 15 (ad 4 r) = iO (zz q 2 r 2) := hV.p r (by omega) 2 (by decide)
  have ex : (16 : Int32) * hI S 14 (ad 4 r) - iO (ahd q t (zz q 2 r 0) 0) = iO (rsd q r t 0) := by rw [p1, show (16 : Int32) = iO 16 from rfl, iO_mul, iO_sub]; rfl
  have ey : (16 : Int32) * hI S 15 (ad 4 r) - iO (ahd q t (zz q 2 r 0) 1) = iO (rsd q r t 1) := by rw [p2, show (16 : Int32) = iO 16 from rfl, iO_mul, iO_sub]; rfl
  have gx : ∀ z, bd z (-8000) 8000 → iO z * iO (zz q 0 0 1) / 16 = iO ((z * zz q 0 0 1).tdiv 16) := fun z hz => by
    have := gain_bd hz (by unfold bd at *; omega : bd (zz q 0 0 1) 0 16)
    rw [iO_mul, show (16 : Int32) = iO 16 from rfl, iO_div (by unfold bd at *; omega) (by unfold bd at *; omega) (by decide) (by decide) (by decide)]
  have gv : ∀ ax, ax < 2 → bd (rsd q r t ax) (-8000) 8000 → pushF (iO (zz q 3 t (3 + ax))) (iO (rsd q r t ax) * iO (zz q 0 0 2)) (iO (zz q 2 r 0) - iO (zz q 3 t 0)) = iO (velA q r t ax) := fun ax hax hz => by
    have := gain_bd hz hs
    rw [iO_mul, iO_sub, pushF_O (by rcases (show ax = 0 ∨ ax = 1 by omega) with rfl | rfl; exact t3; exact t4) this (by unfold bd at *; omega)]
    rfl
  have w0 : hI S 17 (ad 6 t) = iO (zz q 3 t 0) := hV.tv t ht 0 (by decide)
  have w3 : hI S 20 (ad 6 t) = iO (zz q 3 t 3) := hV.tv t ht 3 (by decide)
  have w4 : hI S 21 (ad 6 t) = iO (zz q 3 t 4) := hV.tv t ht 4 (by decide)
  have w5 : hI S 22 (ad 6 t) = iO (zz q 3 t 5) := hV.tv t ht 5 (by decide)
  have g3 := gv 0 (by decide) c2
  have g4 := gv 1 (by decide) c3
  have e : followS S (ad 6 t) (ad 4 r) (ad 7 t) (cn q (100 + t)) (iO (zz q 0 0 1)) (iO (zz q 0 0 2)) = noteS (sI (sI (sI (sI (sI (sI (sI S 18 (ad 6 t) (iO (posA q r t 0))) 19 (ad 6 t) (iO (posA q r t 1))) 20 (ad 6 t) (iO (velA q r t 0))) 21 (ad 6 t) (iO (velA q r t 1))) 17 (ad 6 t) (iO (zz q 2 r 0))) 22 (ad 6 t) (iO (zz q 3 t 5 + 1))) 23 (ad 6 t) 0) (ad 6 t) (ad 7 t) (cn q (100 + t)) 104 := by
    unfold followS
    dsimp only
    rw [p0, xAt_O hV ht, yAt_O hV ht, ex, ey, gx _ c2, gx _ c3, w0, w3, w4, w5, iO_add, iO_add, show (1 : Int32) = iO 1 from rfl, iO_add]
    rw [show pushF (iO (zz q 3 t 3)) (iO (rsd q r t 0) * iO (zz q 0 0 2)) (iO (zz q 2 r 0) - iO (zz q 3 t 0)) = iO (velA q r t 0) from g3, show pushF (iO (zz q 3 t 4)) (iO (rsd q r t 1) * iO (zz q 0 0 2)) (iO (zz q 2 r 0) - iO (zz q 3 t 0)) = iO (velA q r t 1) from g4]
    rfl
  refine XV.trk hA hV FrT.flw QT.flw ht (fun k hk => ?_) ?_ ?_ ?_ (fun j hj => ?_)
  · rw [e, flw_row]
    rcases (show k = 0 ∨ k = 1 ∨ k = 2 ∨ k = 3 ∨ k = 4 ∨ k = 5 ∨ k = 6 by omega) with rfl | rfl | rfl | rfl | rfl | rfl | rfl <;> simp [noteS, hI_sI, hI_tI, flwR] <;> rfl
  · rw [e, flw_row]
    have := hV.t24 t ht
    simp [noteS, hI_sI, hI_tI, flwR, this]
  · rw [e, flw_row, flw_row]
    have := hV.t25 t ht
    simp [noteS, hI_sI, hI_tI, flwR, this]
  · rw [e, flw_cn]
    simp [noteS, hI_sI, nI_1]
  · rw [flw_cn] at hj
    rw [e]
    exact vs_nt (S := sI (sI (sI (sI (sI (sI (sI S 18 (ad 6 t) (iO (posA q r t 0))) 19 (ad 6 t) (iO (posA q r t 1))) 20 (ad 6 t) (iO (velA q r t 0))) 21 (ad 6 t) (iO (velA q r t 1))) 17 (ad 6 t) (iO (zz q 2 r 0))) 22 (ad 6 t) (iO (zz q 3 t 5 + 1))) 23 (ad 6 t) 0) (q := rwA q t (flwR q r t)) (z := 104) rfl rfl (fun j hj => hV.sg t ht j hj) j hj
/-- the matching, as the search leaves it -/
def XW (S : HS) (ad : AD) (q : AS) : Prop := hI S 5 (ad 8 0) = nI (cn q 0) ∧ hI S 6 (ad 8 0) = nI (lcn q) ∧ (∀ i, i < lcn q → aR S (ad 9 0) i = some (ad 6 (lti q i))) ∧ (∀ j, j < cn q 0 → aI S (ad 13 0) j = iO (tkr q j))
theorem XW.T {S T : HS} {ad : AD} {q : AS} {n t : Nat} (hA : XA S ad n) (ht : t < n) (f : FrT S T ad t) (h : XW S ad q) : XW T ad q := ⟨(f.2.2.2.1 _ _ (Or.inl (by decide))).trans h.1, (f.2.2.2.1 _ _ (Or.inl (by decide))).trans h.2.1, fun i hi => (congrFun (f.2.2.2.2.1 _) _).trans (h.2.2.1 i hi), fun j hj => (congrFun (f.2.2.2.2.2.1 _ (ne_kinds hA.k13 (hA.k7 t ht) (by decide))) _).trans (h.2.2.2 j hj)⟩
theorem tkr_bd (q : AS) {r : Nat} (hr : r < cn q 0) : -1 ≤ tkr q r ∧ tkr q r < lcn q := by
  rcases tkr_ok q hr with z | ⟨i, a, b, c⟩ <;> omega
theorem FS_neg {q : AS} {r : Nat} (h : tkr q r < 0) : FS q (r + 1) = FS q r ∧ TK q (r + 1) = TK q r := ⟨if_pos h, if_pos h⟩
theorem FS_pos {q : AS} {r : Nat} (h : ¬ tkr q r < 0) : FS q (r + 1) = flwA (FS q r) r (tkt q r) ∧ TK q (r + 1) = TK q r + 1 := ⟨if_neg h, if_neg h⟩
theorem TK_le (q : AS) : ∀ r, TK q r ≤ r
  | 0 => Nat.le_refl _
  | r + 1 => by
    have := TK_le q r
    by_cases h : tkr q r < 0
    · rw [(FS_neg h).2]; omega
    · rw [(FS_pos h).2]; omega
theorem nlt2 {a b c : Nat} (h : ¬ nI b ≤ nI a) (ha : a < 2 ^ 31 ∧ b ≤ c) : a < c := Nat.lt_of_lt_of_le (nlt h ha.1) ha.2
set_option maxRecDepth 100000 in
set_option maxHeartbeats 4000000 in
theorem lp_X4_changeTakers {l : Launch} {pP : Program} {eE : Env} {sS : State} {mM : MethodId} {aA : Array Value} {bB : List Frame} {tT : Method} {cC : Code} {G : GT} {A : Nat → Prop} {Q : State → Prop}  (S : HS) (ad : AD) (q : AS) (hB : BI q) (hh : ∀ t, t < cn q 1 → cn q (100 + t) ≤ 400)  (C : Cx pP l eE (rmD 6 0 0) sS mM aA bB tT cC cX4_changeTakers 5 RX4 G A) (kk : ∀ T : HS, XA T ad (cn q 1) ∧ XV T ad (FS q (cn q 0)) ∧ XW T ad q → V pP l eE (rmD 6 0 0) sS mM aA bB tT cC 5 G A T 0 0 Q 60 [(0, .ref (ad 0 0)), (1, .int (nI (TK q (cn q 0)))), (2, .int (nI (cn q 0)))] []) : ∀ (N : Nat) (p : Nat) (T : HS), (hN9 : cn q 0 + 1 ≤ p + N) → (hi : p ≤ cn q 0) → (hinv : XA T ad (cn q 1) ∧ XV T ad (FS q p) ∧ XW T ad q) → V pP l eE (rmD 6 0 0) sS mM aA bB tT cC 5 G A T 0 0 Q 4 [(0, .ref (ad 0 0)), (1, .int (nI (TK q p))), (2, .int (nI p))] [] := by
  intro N
  induction N with
  | zero =>
    intro p T hN9 hi hinv
    exact absurd hN9 (by omega)
  | succ N ih =>
    intro p T hN9 hi hinv
    obtain ⟨hAT, hVT, hW⟩ := hinv
    obtain ⟨f1, f2, f3, f4, f5⟩ := FS_I hB hh p hi
    have h04 := hB.b0
    have e0 := f2.1 0 (by decide)
    have e1 := f2.1 1 (by decide)
    have hv30 : hI T 30 (ad 0 0) = nI (cn q 0) := by rw [hVT.v30, e0]
    have htl := TK_le q p
    refine v_iload_n C 2 rfl rfl dX4_changeTakers_4 ?_
    refine v_aload_n C 0 rfl rfl dX4_changeTakers_5 ?_
    refine v_getI C (nI (cn q 0)) fl_RX4_93 hAT.k0 hv30 dX4_changeTakers_6 ?_
    refine v_icmp_ge C 60 (by decide) dX4_changeTakers_9 (fun c9 => ?_) (fun c9 => ?_)
    · obtain rfl : p = cn q 0 := by have := nge c9 (by omega); omega
      exact V.sub [0, 1, 2] rfl (kk T ⟨hAT, hVT, hW⟩)
    · have hp : p < cn q 0 := nlt c9 (by omega)
      by_cases hc : tkr q p < 0
      · have htt := trivial
        refine v_aload_n C 0 rfl rfl dX4_changeTakers_12 ?_
        refine v_iload_n C 2 rfl rfl dX4_changeTakers_13 ?_
        refine v_callVq C (st := []) [.int (nI p)] (c_X4_rowAt_y l T ad (cn q 1) p hAT (by omega)) ml_RX4_96 mi_yX4_rowAt hAT.k0 (by decide) (by decide +kernel) rfl (Nat.le_of_ble_eq_true rfl) (Nat.le_of_ble_eq_true rfl) (Nat.le_of_ble_eq_true rfl) (Nat.le_of_ble_eq_true rfl) (Nat.le_of_ble_eq_true rfl) dX4_changeTakers_14 (fun r u h => ?_) _ rfl
        obtain ⟨rfl, rfl⟩ := h
        refine v_astore_n C [(3, .ref (ad 4 p)), (0, .ref (ad 0 0)), (1, .int (nI (TK q p))), (2, .int (nI p))] (by decide) rfl rfl dX4_changeTakers_17 ?_
        refine v_aload_n C 1 rfl rfl dX4_changeTakers_18 ?_
        refine v_getR C (ad 8 0) fl_RX4_30 hAT.k0 hAT.r33 dX4_changeTakers_19 ?_
        refine v_iload_n C 3 rfl rfl dX4_changeTakers_22 ?_
        refine v_callVq C (st := []) [.int (nI p)] (c_X1_takerOf l T (ad 8 0) (ad 13 0) (ad 9 0) (cn q 0) (lcn q) p (tkr q p) hAT.k8 hAT.k13 hAT.k9 hAT.r11 hAT.r7 hAT.n13 hAT.n9 hW.1 hW.2.1 hB.b0 hB.bv hp (hW.2.2.2 p hp) (tkr_bd q hp).1 (tkr_bd q hp).2) ml_RX4_158 mi_yX1_takerOf hAT.k8 (by decide) (by decide +kernel) rfl (Nat.le_of_ble_eq_true rfl) (Nat.le_of_ble_eq_true rfl) (Nat.le_of_ble_eq_true rfl) (Nat.le_of_ble_eq_true rfl) (Nat.le_of_ble_eq_true rfl) dX4_changeTakers_23 (fun r u h => ?_) _ rfl
        obtain ⟨hz, rfl⟩ := h
        rw [if_pos hc] at hz
        subst hz
        refine v_astoreN C [(4, .null), (3, .ref (ad 4 p)), (0, .ref (ad 0 0)), (1, .int (nI (TK q p))), (2, .int (nI p))] (by decide) rfl dX4_changeTakers_26 ?_
        refine v_aload_n C 1 rfl rfl dX4_changeTakers_28 ?_
        refine v_ifnull C dX4_changeTakers_29 ?_
        refine v_aloadN C 0 rfl dX4_changeTakers_32 ?_
        refine v_ifnullN C 54 (by decide) dX4_changeTakers_34 ?_
        refine v_iinc C (nI (p + 1)) 4 [(2, .int (nI (p + 1))), (4, .null), (3, .ref (ad 4 p)), (0, .ref (ad 0 0)), (1, .int (nI (TK q p)))] rfl (by rw [← nI_1]; rfl) (by decide) rfl dX4_changeTakers_54 ?_
        refine v_goto C 4 (by decide) dX4_changeTakers_57 ?_
        have ef := FS_neg hc
        refine V.sub [3, 4, 0] rfl ?_
        have key := ih (p + 1) T (by omega) hp ⟨hAT, by rw [ef.1]; exact hVT, hW⟩
        rw [ef.2] at key
        exact key
      · obtain ⟨i0, hi1, hi2, hi3, hi4⟩ := tkr_nn q hp hc
        have htk : aR T (ad 9 0) (tkr q p).toNat = some (ad 6 (tkt q p)) := by rw [hi4, hi1]; exact hW.2.2.1 i0 hi2
        refine v_aload_n C 0 rfl rfl dX4_changeTakers_12 ?_
        refine v_iload_n C 2 rfl rfl dX4_changeTakers_13 ?_
        refine v_callVq C (st := []) [.int (nI p)] (c_X4_rowAt_y l T ad (cn q 1) p hAT (by omega)) ml_RX4_96 mi_yX4_rowAt hAT.k0 (by decide) (by decide +kernel) rfl (Nat.le_of_ble_eq_true rfl) (Nat.le_of_ble_eq_true rfl) (Nat.le_of_ble_eq_true rfl) (Nat.le_of_ble_eq_true rfl) (Nat.le_of_ble_eq_true rfl) dX4_changeTakers_14 (fun r u h => ?_) _ rfl
        obtain ⟨rfl, rfl⟩ := h
        refine v_astore_n C [(3, .ref (ad 4 p)), (0, .ref (ad 0 0)), (1, .int (nI (TK q p))), (2, .int (nI p))] (by decide) rfl rfl dX4_changeTakers_17 ?_
        refine v_aload_n C 1 rfl rfl dX4_changeTakers_18 ?_
        refine v_getR C (ad 8 0) fl_RX4_30 hAT.k0 hAT.r33 dX4_changeTakers_19 ?_
        refine v_iload_n C 3 rfl rfl dX4_changeTakers_22 ?_
        refine v_callVq C (st := []) [.int (nI p)] (c_X1_takerOf l T (ad 8 0) (ad 13 0) (ad 9 0) (cn q 0) (lcn q) p (tkr q p) hAT.k8 hAT.k13 hAT.k9 hAT.r11 hAT.r7 hAT.n13 hAT.n9 hW.1 hW.2.1 hB.b0 hB.bv hp (hW.2.2.2 p hp) (tkr_bd q hp).1 (tkr_bd q hp).2) ml_RX4_158 mi_yX1_takerOf hAT.k8 (by decide) (by decide +kernel) rfl (Nat.le_of_ble_eq_true rfl) (Nat.le_of_ble_eq_true rfl) (Nat.le_of_ble_eq_true rfl) (Nat.le_of_ble_eq_true rfl) (Nat.le_of_ble_eq_true rfl) dX4_changeTakers_23 (fun r u h => ?_) _ rfl
        obtain ⟨hz, rfl⟩ := h
        rw [if_neg hc, htk] at hz
        subst hz
        refine v_astore C [(4, .ref (ad 6 (tkt q p))), (3, .ref (ad 4 p)), (0, .ref (ad 0 0)), (1, .int (nI (TK q p))), (2, .int (nI p))] (by decide) rfl dX4_changeTakers_26 ?_
        refine v_aload_n C 1 rfl rfl dX4_changeTakers_28 ?_
        refine v_ifnull C dX4_changeTakers_29 ?_
        refine v_aload C 0 rfl dX4_changeTakers_32 ?_
        refine v_ifnull C dX4_changeTakers_34 ?_
        have htn : tkt q p < cn q 1 := by rw [hi4]; exact (lti_lt q hi2).1
        have hrow : Row q (FS q p) (tkt q p) := f4 _ (fun r2 x y => tkt_ne q x hp y hc)
        have hck : 0 ≤ ctk (FS q p) p (tkt q p) := by rw [ctk_same f2 hrow, hi4]; exact hi3
        have hq4 : cn (FS q p) (100 + tkt q p) < 512 := by rw [hrow.2.2]; have := hh _ htn; omega
        refine v_aload C 0 rfl dX4_changeTakers_37 ?_
        refine v_aload_n C 1 rfl rfl dX4_changeTakers_39 ?_
        refine v_aload_n C 2 rfl rfl dX4_changeTakers_40 ?_
        refine v_getI C (iO (zz (FS q p) 0 0 1)) fl_RX4_38 hAT.k0 hVT.v35 dX4_changeTakers_41 ?_
        refine v_aload_n C 2 rfl rfl dX4_changeTakers_44 ?_
        refine v_getI C (iO (zz (FS q p) 0 0 2)) fl_RX4_41 hAT.k0 hVT.v36 dX4_changeTakers_45 ?_
        refine v_callVv C (st := []) [.ref (ad 4 p), .int (iO (zz (FS q p) 0 0 1)), .int (iO (zz (FS q p) 0 0 2))] (c_X3_follow l T (ad 6 (tkt q p)) (ad 4 p) (ad 7 (tkt q p)) (cn (FS q p) (100 + tkt q p)) (iO (zz (FS q p) 0 0 1)) (iO (zz (FS q p) 0 0 2)) (hAT.k4 p (by omega)) (hAT.k6 _ htn) (hAT.k7 _ htn) (hAT.r26 _ htn) (hAT.n7 _ htn) (hVT.t27 _ (by omega)) hq4) ml_RX4_232 mi_yX3_follow (hAT.k6 _ htn) (by decide) (by decide +kernel) rfl (Nat.le_of_ble_eq_true rfl) (Nat.le_of_ble_eq_true rfl) (Nat.le_of_ble_eq_true rfl) (Nat.le_of_ble_eq_true rfl) (Nat.le_of_ble_eq_true rfl) dX4_changeTakers_48 (fun u h => ?_) _ rfl
        subst h
        refine v_iinc C (nI (TK q p + 1)) 3 [(1, .int (nI (TK q p + 1))), (4, .ref (ad 6 (tkt q p))), (3, .ref (ad 4 p)), (0, .ref (ad 0 0)), (2, .int (nI p))] rfl (by rw [← nI_1]; rfl) (by decide) rfl dX4_changeTakers_51 ?_
        refine v_iinc C (nI (p + 1)) 4 [(2, .int (nI (p + 1))), (1, .int (nI (TK q p + 1))), (4, .ref (ad 6 (tkt q p))), (3, .ref (ad 4 p)), (0, .ref (ad 0 0))] rfl (by rw [← nI_1]; rfl) (by decide) rfl dX4_changeTakers_54 ?_
        refine v_goto C 4 (by decide) dX4_changeTakers_57 ?_
        have ef := FS_pos hc
        refine V.sub [4, 1, 0] rfl ?_
        have key := ih (p + 1) (followS T (ad 6 (tkt q p)) (ad 4 p) (ad 7 (tkt q p)) (cn (FS q p) (100 + tkt q p)) (iO (zz (FS q p) 0 0 1)) (iO (zz (FS q p) 0 0 2))) (by omega) hp ⟨FrT.flw.toA hAT, by rw [ef.1]; exact XV.flw (by rw [e1]; exact hAT) hVT f1 (by omega) (by omega) hck, XW.T hAT htn FrT.flw hW⟩
        rw [ef.2] at key
        exact key
set_option maxRecDepth 100000 in
set_option maxHeartbeats 4000000 in
theorem c_X4_changeTakers (l : Launch) (S : HS) (ad : AD) (q : AS) (hB : BI q) (hh : ∀ t, t < cn q 1 → cn q (100 + t) ≤ 400) (hA : XA S ad (cn q 1)) (hV : XV S ad q) (hW : XW S ad q) : cM l yX4_changeTakers cX4_changeTakers 5 (Option.some Jvm.ClassFile.FieldType.int) 6 [.ref (ad 0 0)] S (pI fun r u => nI (TK q (cn q 0)) = r ∧ XA u ad (cn q 1) ∧ XV u ad (FS q (cn q 0)) ∧ XW u ad q) 0 0 := by
  refine cM_intro (by decide +kernel) cd_X4_changeTakers (Nat.le_of_ble_eq_true rfl) ?_
  intro pP eE sS mM aA bB tT cC G A C hRT hin
  refine V.lvs (lv2 := [(0, .ref (ad 0 0))]) rfl ?_
  refine v_iconst C 0 (by decide) dX4_changeTakers_0 ?_
  refine v_istore_n C [(1, .int 0), (0, .ref (ad 0 0))] (by decide) rfl rfl dX4_changeTakers_1 ?_
  refine v_iconst C 0 (by decide) dX4_changeTakers_2 ?_
  refine v_istore_n C [(2, .int 0), (1, .int 0), (0, .ref (ad 0 0))] (by decide) rfl rfl dX4_changeTakers_3 ?_
  refine V.sub [2, 1, 0] rfl (lp_X4_changeTakers S ad q hB hh C (fun T hT => ?_) (cn q 0 + 1) 0 S (by omega) (by omega) ⟨hA, hV, hW⟩)
  refine v_iload_n C 1 rfl rfl dX4_changeTakers_60 ?_
  exact v_iret C hRT (Nat.le_of_ble_eq_true rfl) (Nat.le_of_ble_eq_true rfl) dX4_changeTakers_61 ⟨_, rfl, rfl, hT⟩
