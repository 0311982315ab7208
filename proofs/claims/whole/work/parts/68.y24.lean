/-- the model's heap in the midst of 'process': q the state at its begin, p the state now -/
def PZ (T : HS) (am : AM) (q p : AS) : Prop := NA T am (cn p 1) ∧ NV T am p ∧ hI T 61 (am 0) = 0 ∧ (∀ r, r < cn q 0 → aI T (am 10) r = iO (gtA q r))
theorem PZ.to {T u : HS} {am am2 : AM} {q p p2 : AS} (h : PZ T am q p) (e : ∀ i, i < 20 → am2 i = am i) (gA : NA u am2 (cn p2 1)) (gV : NV u am2 p2) (f : FrP T u am) : PZ u am2 q p2 := ⟨gA, gV, by rw [e 0 (by decide), f.1]; exact h.2.2.1, fun r hr => by rw [e 10 (by decide), f.2]; exact h.2.2.2 r hr⟩
theorem PZ.lay {T : HS} {am : AM} {q p : AS} {t k : Nat} {x : Int32} {v : Int} (h : PZ T am q p) (hk : k < 9) (hx : x = iO v) : PZ (tI T (am 3) (9 * t + k) x) am q (zs p 3 t k v) := ⟨h.1.of rfl rfl rfl rfl, NV.lay h.1 h.2.1 hk hx, h.2.2.1, fun r hr => (congrFun (aI_tI2 (h.1.apt (by decide) (by decide) (by decide))) r).trans (h.2.2.2 r hr)⟩
theorem gt_n {q : AS} (hB : BI q) {r : Nat} (hr : r < cn q 0) : iO (gtA q r) = -1 ↔ tkr q r < 0 := by
  unfold gtA
  by_cases h : tkr q r < 0
  · rw [if_pos h]
    exact ⟨fun _ => h, fun _ => rfl⟩
  · rw [if_neg h]
    obtain ⟨i, a, b, c, d⟩ := tkr_nn q hr h
    have h1 := (lti_lt q b).1
    have h2 := hB.b1
    rw [← d] at h1
    rw [show (-1 : Int32) = iO (-1) from rfl, iO_eq (by omega) (by omega) (by decide) (by decide)]
    omega
theorem gt_p {q : AS} {r : Nat} (h : ¬ tkr q r < 0) : iO (gtA q r) = nI (tkt q r) := by
  unfold gtA
  rw [if_neg h, nI_iO]
theorem hh320 {q : AS} {B : Nat} (hB : BI q) (hh : HB q B) (hb : B ≤ 258) : ∀ t, t < cn q 1 → cn q (100 + t) ≤ 318 := fun t ht => by have := hh t ht; have := hB.b1; omega
/-- rows that no miss touches -/
theorem MS_dead {q : AS} {t : Nat} : ∀ i, (∀ j, j < i → lti q j ≠ t) → Row (FS q (cn q 0)) (MS q i) t
  | 0, _ => Row.rf
  | i + 1, h => by
    have ih := MS_dead i (fun j hj => h j (by omega))
    by_cases hc : hasR q i = true
    · rw [MS_t hc]; exact ih
    · rw [MS_f hc]
      exact ih.tr (QT.mss.row (fun z => h i (by omega) z.symm))
theorem lti_below {q : AS} {t j : Nat} (ht : t ≤ cn q 1) (hj : j < cntP (liveP q) t) : lti q j < t := by
  have h1 : cntP (liveP q) t ≤ cntP (liveP q) (cn q 1) := cntP_mono _ ht
  obtain ⟨a, b, c⟩ := lvt_spec (p := liveP q) (n := cn q 1) (i := j) (by omega)
  rcases Nat.lt_or_ge (lti q j) t with z | z
  · exact z
  · have := cntP_mono (liveP q) z
    unfold lti at this
    omega
theorem MS_7 {q : AS} (hB : BI q) (hh : ∀ t, t < cn q 1 → cn q (100 + t) ≤ 400) {t : Nat} (ht : t ≤ cn q 1) : zz (MS q (cntP (liveP q) t)) 3 t 7 = zz q 3 t 7 := by
  have h1 := MS_dead (q := q) (t := t) (cntP (liveP q) t) (fun j hj z => by have := lti_below ht hj; omega)
  obtain ⟨f1, f2, f3, f4, f5⟩ := FS_I hB hh (cn q 0) (Nat.le_refl _)
  rw [h1.1, (f3 t).1]
theorem goes_O {T : HS} {am : AM} {q : AS} {t : Nat} (hB : BI q) (hbst : ∀ r, r < cn q 0 → aI T (am 10) r = iO (gtA q r)) (ht : t < cn q 1) (hl : zz q 3 t 7 = 0) : anyP (fun r => decide (aI T (am 10) r = nI t)) (cn q 0) = hasR q (cntP (liveP q) t) := by
  unfold hasR
  have hp : liveP q t = true := decide_eq_true hl
  have hlt : lti q (cntP (liveP q) t) = t := lvt_of ht hp
  have hc : cntP (liveP q) t < lcn q := by
    have := cntP_mono (liveP q) (show t + 1 ≤ cn q 1 by omega)
    rw [cntP_t hp] at this
    exact this
  have h60 := hB.b1
  refine anyP_cong (fun r hr => ?_)
  rw [hbst r hr]
  by_cases h : tkr q r < 0
  · have e : ¬ iO (gtA q r) = nI t := fun z => by
      have := (gt_n hB hr).mpr h
      rw [z, nI_iO, show (-1 : Int32) = iO (-1) from rfl, iO_eq (by omega) (by omega) (by decide) (by decide)] at this
      omega
    rw [decide_eq_false e, decide_eq_false (by omega)]
  · rw [gt_p h]
    obtain ⟨i, a, b, c, d⟩ := tkr_nn q hr h
    have h1 := (lti_lt q b).1
    by_cases e : i = cntP (liveP q) t
    · rw [decide_eq_true (by rw [d, e, hlt]), decide_eq_true (by rw [a, e])]
    · rw [decide_eq_false (fun z => e (lti_inj q b hc (by rw [hlt, ← d]; exact nI_inj z (by omega) (by omega)))), decide_eq_false (by omega)]
theorem MI_le {a : Nat} {p : AS} : ∀ b, b ≤ a + 1 → MI a p b = p
  | 0, _ => rfl
  | b + 1, h => by rw [MI_n (fun z => by omega)]; exact MI_le b (by omega)
/-- what the model does of one track's merging, live or not -/
def ZI (p : AS) (a b : Nat) : AS := if liveP p a = true then MI a p b else p
theorem mrg_O {p : AS} {a b : Nat} (hab : a ≠ b) : ntA (ntA (zs (zs (zs p 3 a 5 (zz p 3 a 5 + zz p 3 b 5)) 3 b 7 2) 3 b 8 (a : Int)) b 109) a 103 = mrgA p a b := by
  have k1 : cn (ntA (zs (zs (zs p 3 a 5 (zz p 3 a 5 + zz p 3 b 5)) 3 b 7 2) 3 b 8 (a : Int)) b 109) (100 + a) = cn p (100 + a) := by
    rw [cn_nt, if_neg (by omega)]; rfl
  have k2 : cn (zs (zs (absA p a b) 3 b 7 2) 3 b 8 (a : Int)) (100 + b) = cn p (100 + b) := by
    show cn (absA p a b) (100 + b) = _
    unfold absA
    rw [cn_nt, if_neg (by omega)]; rfl
  refine Prod.ext ?_ ?_
  · funext k
    show cn (ntA (ntA (zs (zs (zs p 3 a 5 (zz p 3 a 5 + zz p 3 b 5)) 3 b 7 2) 3 b 8 (a : Int)) b 109) a 103) k = cn (mrgA p a b) k
    unfold mrgA intoA
    rw [cn_nt, k1, cn_nt, cn_nt, k2]
    show _ = if k = 100 + b then cn p (100 + b) + 1 else cn (absA p a b) k
    unfold absA
    rw [cn_nt]
    show (if k = 100 + a then cn p (100 + a) + 1 else if k = 100 + b then cn p (100 + b) + 1 else cn p k) = (if k = 100 + b then cn p (100 + b) + 1 else if k = 100 + a then cn p (100 + a) + 1 else cn p k)
    by_cases h1 : k = 100 + a
    · rw [if_pos h1, if_neg (by omega), if_pos h1]
    · rw [if_neg h1, if_neg h1]
  · funext i j k
    show zz (ntA (ntA (zs (zs (zs p 3 a 5 (zz p 3 a 5 + zz p 3 b 5)) 3 b 7 2) 3 b 8 (a : Int)) b 109) a 103) i j k = zz (mrgA p a b) i j k
    unfold mrgA intoA
    rw [zz_nt, k1, zz_nt, zz_nt, k2]
    show (if i = 4 ∧ j = a ∧ k = cn p (100 + a) then (103 : Int) else if i = 4 ∧ j = b ∧ k = cn p (100 + b) then 109 else zz (zs (zs (zs p 3 a 5 (zz p 3 a 5 + zz p 3 b 5)) 3 b 7 2) 3 b 8 (a : Int)) i j k) = (if i = 4 ∧ j = b ∧ k = cn p (100 + b) then 109 else zz (zs (zs (absA p a b) 3 b 7 2) 3 b 8 (a : Int)) i j k)
    unfold absA
    rw [zz_zs, zz_zs, zz_zs, zz_zs, zz_zs, zz_nt, zz_zs]
    show _ = (if i = 4 ∧ j = b ∧ k = cn p (100 + b) then (109 : Int) else if i = 3 ∧ j = b ∧ k = 8 then (a : Int) else if i = 3 ∧ j = b ∧ k = 7 then 2 else if i = 4 ∧ j = a ∧ k = cn p (100 + a) then 103 else if i = 3 ∧ j = a ∧ k = 5 then zz p 3 a 5 + zz p 3 b 5 else zz p i j k)
    by_cases h4 : i = 4
    · subst h4
      by_cases h1 : j = a
      · subst h1
        rw [if_neg (c := (4 = 4 ∧ j = b ∧ k = cn p (100 + b))) (by omega), if_neg (c := (4 = 4 ∧ j = b ∧ k = cn p (100 + b))) (by omega), if_neg (c := (4 = 3 ∧ j = b ∧ k = 8)) (by omega), if_neg (c := (4 = 3 ∧ j = b ∧ k = 7)) (by omega), if_neg (c := (4 = 3 ∧ j = b ∧ k = 8)) (by omega), if_neg (c := (4 = 3 ∧ j = b ∧ k = 7)) (by omega)]
      · rw [if_neg (c := (4 = 4 ∧ j = a ∧ k = cn p (100 + a))) (by omega), if_neg (c := (4 = 4 ∧ j = a ∧ k = cn p (100 + a))) (by omega)]
    · rw [if_neg (c := (i = 4 ∧ j = a ∧ k = cn p (100 + a))) (by omega), if_neg (c := (i = 4 ∧ j = b ∧ k = cn p (100 + b))) (by omega), if_neg (c := (i = 4 ∧ j = b ∧ k = cn p (100 + b))) (by omega), if_neg (c := (i = 4 ∧ j = a ∧ k = cn p (100 + a))) (by omega)]
theorem mrg_lcn {p : AS} {a b B : Nat} (hB : BI p) (hb : b < cn p 1) (hab : a < b) (hl : liveP p b = true) (hh : HB p B) (hB3 : B ≤ 301) : lcn (mrgA p a b) + 1 = lcn p := by
  have h60 := hB.b1
  have ha := hh a (by omega)
  have hb2 := hh b hb
  obtain ⟨x1, x2, x3⟩ := abs_BI (b := b) hB (a := a) (by omega) (by omega)
  have e1 : cn (absA p a b) 1 = cn p 1 := (QT.abs (q := p) (a := a) (b := b)).low.1 1 (by decide)
  have e2 : cn (absA p a b) (100 + b) = cn p (100 + b) := (QT.abs (q := p) (a := a) (b := b)).1 _ (by omega)
  have h := (into_BI (a := a) x1 (b := b) (by omega) (by rw [x3]; exact hl) (by rw [e2]; omega)).2
  unfold mrgA
  omega
theorem NV.fin {S : HS} {am : AM} {q : AS} (hA : NA S am (cn q 1)) (hV : NV S am q) : NV (sI (sI S 57 (am 0) (nI (cn q 2) + nI (cn q 0))) 50 (am 0) 0) am (fin0 q) := by
  have r1 : ∀ f, f ≠ 50 → f ≠ 57 → ∀ a, hI (sI (sI S 57 (am 0) (nI (cn q 2) + nI (cn q 0))) 50 (am 0) 0) f a = hI S f a := fun f h1 h2 a => (hI_sI2 (fun z => h1 z.1)).trans (hI_sI2 (fun z => h2 z.1))
  have c : ∀ k, k ≠ 0 → k ≠ 2 → cn (fin0 q) k = cn q k := fun k h1 h2 => fin_cn q h1 h2
  refine ⟨by rw [r1 _ (by decide) (by decide), c 1 (by decide) (by decide)]; exact hV.v44, hI_sI1, by rw [r1 _ (by decide) (by decide)]; exact hV.v51, by rw [r1 _ (by decide) (by decide)]; exact hV.v52, by rw [r1 _ (by decide) (by decide)]; exact hV.v53, by rw [r1 _ (by decide) (by decide)]; exact hV.v54, by rw [r1 _ (by decide) (by decide)]; exact hV.v55, by rw [r1 _ (by decide) (by decide), c 3 (by decide) (by decide)]; exact hV.v56, ?_,
    fun i hi => by rw [c _ (by omega) (by omega)]; exact hV.pm i hi, fun i hi h k hk => by rw [c _ (by omega) (by omega)] at h; exact hV.p1 i hi h k hk, fun i hi h k hk => by rw [c _ (by omega) (by omega)] at h; exact hV.p2 i hi h k hk, fun t ht k hk => ?_, fun t ht => ?_, fun t ht j hj => ?_, fun t ht => ?_, fun r hr => hV.t6 r hr, fun r hr => hV.t7 r hr, fun r hr => hV.t8 r hr⟩
  · refine (hI_sI2 (fun z => absurd z.1 (by decide))).trans (hI_sI1.trans ((nI_add' _ _).trans ?_))
    unfold fin0
    rw [cn_cs, if_neg (by decide), cn_cs, if_pos rfl]
  all_goals rw [c 1 (by decide) (by decide)] at ht
  · exact hV.m t ht k hk
  · rw [c _ (by omega) (by omega)]; exact hV.hm t ht
  · rw [c _ (by omega) (by omega)] at hj; exact hV.hr t ht j hj
  · rw [c _ (by omega) (by omega)]; exact hV.hl t ht
theorem cM.post {l : Launch} {y : MethodName} {cc : ByteArray} {maxL : Nat} {ret : Option FieldType} {d : Nat} {av : List Value} {S : HS} {post post' : Option Value → HS → Prop} {mc ms : Nat} (h : cM l y cc maxL ret d av S post mc ms) (hp : ∀ v u, post v u → post' v u) : cM l y cc maxL ret d av S post' mc ms := fun G sz => MetFree.mono (h G sz) (fun _ _ z => z) (fun _ _ _ _ _ z => z) (fun a s o t _ hq => by
  obtain ⟨⟨⟨v, u, h1, h2, h3⟩, h4⟩, h5⟩ := hq
  exact ⟨⟨⟨v, u, h1, hp v u h2, h3⟩, h4⟩, h5⟩)
/-- a sign, in the midst of 'process' -/
theorem c_X5_notesP (l : Launch) (S : HS) (am : AM) (q p : AS) (hP : PZ S am q p) (hSG : SGB p) (t : Nat) (x : Int) (v : Int32) (hx : v = iO x) (hxc : vp_nar .char v = v) (ht : t < cn p 1) (hc5 : cn p (100 + t) ≤ 330) : cM l yX5_notes cX5_notes 5 (Option.none : Option Jvm.ClassFile.FieldType) 4 [.ref (am 0), .int (nI t), .int v] S (pV fun u => ∃ am2 : AM, am2 0 = am 0 ∧ PZ u am2 q (ntA p t x)) 1 660 := by
  refine (c_X5_notes l S am p hP.1 hP.2.1 hSG t x v hx hxc ht hc5).post (fun w u h => ?_)
  obtain ⟨hw, am2, e2, gA, gV, gF⟩ := h
  have e : ∀ i, i < 20 → am2 i = am i := fun i hi => e2 i (by omega)
  have e1 : cn (ntA p t x) 1 = cn p 1 := (QT.nt (q := p) (t := t) (x := x)).1 1 (by omega)
  exact ⟨hw, am2, e 0 (by decide), hP.to e (by rw [e1]; exact gA) gV ⟨gF.1 61 (am 0) (by rw [hP.1.k0]; decide), gF.2.2 10 (by decide) (by decide)⟩⟩
