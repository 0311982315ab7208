/-! ## the stages of 'process': what they keep -/
theorem lti_lt (q : AS) {i : Nat} (h : i < lcn q) : lti q i < cn q 1 ∧ zz q 3 (lti q i) 7 = 0 := by
  obtain ⟨a, b, -⟩ := lvt_spec h
  exact ⟨a, of_decide_eq_true b⟩
theorem lti_inj (q : AS) {i j : Nat} (hi : i < lcn q) (hj : j < lcn q) (h : lti q i = lti q j) : i = j := by
  obtain ⟨-, -, a⟩ := lvt_spec hi
  obtain ⟨-, -, b⟩ := lvt_spec hj
  have h2 : lvt (liveP q) (cn q 1) i = lvt (liveP q) (cn q 1) j := h
  rw [h2] at a
  omega
/-- which track a report goes to -/
def tkt (q : AS) (r : Nat) : Nat := lti q (tkr q r).toNat
def Low (q p : AS) : Prop := (∀ k, k < 100 → cn p k = cn q k) ∧ (∀ i, i < 3 → ∀ j k, zz p i j k = zz q i j k)
theorem Low.rf {q : AS} : Low q q := ⟨fun _ _ => rfl, fun _ _ _ _ => rfl⟩
theorem Low.tr {q p s : AS} (h : Low q p) (g : Low p s) : Low q s := ⟨fun k hk => (g.1 k hk).trans (h.1 k hk), fun i hi j k => (g.2 i hi j k).trans (h.2 i hi j k)⟩
theorem QT.low {q p : AS} {t : Nat} (h : QT q p t) : Low q p := ⟨fun k hk => h.1 k (by omega), fun i hi j k => h.2 i j k (by omega)⟩
/-- a track's row is the same -/
def Row (q p : AS) (t : Nat) : Prop := (∀ k, zz p 3 t k = zz q 3 t k) ∧ (∀ k, zz p 4 t k = zz q 4 t k) ∧ cn p (100 + t) = cn q (100 + t)
theorem Row.rf {q : AS} {t : Nat} : Row q q t := ⟨fun _ => rfl, fun _ => rfl, rfl⟩
theorem Row.tr {q p s : AS} {t : Nat} (h : Row q p t) (g : Row p s t) : Row q s t := ⟨fun k => (g.1 k).trans (h.1 k), fun k => (g.2.1 k).trans (h.2.1 k), g.2.2.trans h.2.2⟩
theorem QT.row {q p : AS} {t t' : Nat} (h : QT q p t) (hne : t' ≠ t) : Row q p t' := ⟨fun k => h.2 3 t' k (fun z => hne z.2), fun k => h.2 4 t' k (fun z => hne z.2), h.1 _ (by omega)⟩
theorem ctk_same {q p : AS} {r t : Nat} (hl : Low q p) (hr : Row q p t) : ctk p r t = ctk q r t := by
  have e : ∀ ax, rsd p r t ax = rsd q r t ax := fun ax => by unfold rsd ahd; rw [hl.2 2 (by decide), hl.2 2 (by decide), hr.1, hr.1, hr.1]
  unfold ctk dst gsq
  rw [e, e, hl.2 2 (by decide), hl.2 0 (by decide), hr.1]
def FI (q p : AS) (r : Nat) : Prop := BI p ∧ Low q p ∧ (∀ t, zz p 3 t 7 = zz q 3 t 7 ∧ zz p 3 t 8 = zz q 3 t 8) ∧ (∀ t, (∀ r', r' < r → 0 ≤ tkr q r' → tkt q r' ≠ t) → Row q p t) ∧ (∀ t, t < cn q 1 → cn p (100 + t) ≤ cn q (100 + t) + 1)
theorem tkr_nn (q : AS) {r : Nat} (hr : r < cn q 0) (h : ¬ tkr q r < 0) : ∃ i : Nat, tkr q r = (i : Int) ∧ i < lcn q ∧ 0 ≤ ctk q r (lti q i) ∧ tkt q r = lti q i := by
  rcases tkr_ok q hr with z | ⟨i, a, b, c⟩
  · omega
  · refine ⟨i, b, a, c, ?_⟩
    unfold tkt
    rw [b]
    rfl
theorem tkt_ne (q : AS) {r r' : Nat} (h : r' < r) (hr : r < cn q 0) (h0 : 0 ≤ tkr q r') (h1 : ¬ tkr q r < 0) : tkt q r' ≠ tkt q r := by
  obtain ⟨i, a, b, c, d⟩ := tkr_nn q hr h1
  obtain ⟨j, a', b', c', d'⟩ := tkr_nn q (by omega : r' < cn q 0) (by omega)
  intro z
  rw [d, d'] at z
  have := lti_inj q b' b z
  have h2 := tkr_inj q h hr h0
  omega
theorem FS_I {q : AS} (hB : BI q) (hh : ∀ t, t < cn q 1 → cn q (100 + t) ≤ 400) : ∀ r, r ≤ cn q 0 → FI q (FS q r) r
  | 0, _ => ⟨hB, Low.rf, fun _ => ⟨rfl, rfl⟩, fun _ _ => Row.rf, fun _ _ => Nat.le_succ _⟩
  | r + 1, hr => by
    obtain ⟨h1, h2, h3, h4, h5⟩ := FS_I hB hh r (by omega)
    show FI q (if tkr q r < 0 then FS q r else flwA (FS q r) r (tkt q r)) (r + 1)
    by_cases hc : tkr q r < 0
    · rw [if_pos hc]
      exact ⟨h1, h2, h3, fun t ht => h4 t (fun r' a b => ht r' (by omega) b), h5⟩
    · rw [if_neg hc]
      obtain ⟨i, a, b, c, d⟩ := tkr_nn q (by omega) hc
      have hrow : Row q (FS q r) (tkt q r) := h4 _ (fun r' x y => tkt_ne q x (by omega) y hc)
      have hlt : tkt q r < cn q 1 := by rw [d]; exact (lti_lt q b).1
      have e0 := h2.1 0 (by decide)
      have e1 := h2.1 1 (by decide)
      have hB2 := flw_BI h1 (r := r) (t := tkt q r) (by omega) (by omega) (by rw [ctk_same h2 hrow, d]; exact c) (by rw [hrow.2.2]; have := hh _ hlt; omega)
      refine ⟨hB2, h2.tr QT.flw.low, fun t => ?_, fun t ht => ?_, fun t ht => ?_⟩
      · by_cases he : t = tkt q r
        · subst he
          rw [flw_row, flw_row]
          exact h3 _
        · have := (QT.flw (q := FS q r) (r := r) (t := tkt q r)).row he
          rw [this.1, this.1]
          exact h3 t
      · have he : t ≠ tkt q r := fun z => ht r (by omega) (by omega) z.symm
        exact (h4 t (fun r' x y => ht r' (by omega) y)).tr (QT.flw.row he)
      · by_cases he : t = tkt q r
        · subst he
          rw [flw_cn, hrow.2.2]
          exact Nat.le_refl _
        · rw [(QT.flw.row he).2.2]
          exact h5 t ht
/-! ## missing -/
theorem mss_row (q : AS) (t : Nat) : (∀ k, k < 6 → zz (mssA q t) 3 t k = zz q 3 t k) ∧ zz (mssA q t) 3 t 8 = zz q 3 t 8 ∧ zz (mssA q t) 3 t 6 = zz q 3 t 6 + 1 ∧ ((iO (zz q 3 t 6) + 1 < iO (zz q 0 0 3) ∧ zz (mssA q t) 3 t 7 = zz q 3 t 7 ∧ cn (mssA q t) (100 + t) = cn q (100 + t) + 1) ∨ (¬ iO (zz q 3 t 6) + 1 < iO (zz q 0 0 3) ∧ zz (mssA q t) 3 t 7 = 1 ∧ cn (mssA q t) (100 + t) = cn q (100 + t) + 2)) := by
  unfold mssA
  dsimp only
  by_cases hc : iO (zz q 3 t 6) + 1 < iO (zz q 0 0 3)
  · simp only [if_pos hc, zz_nt3, zz_zs, cn_nt1, cn_zs]
    refine ⟨fun k hk => if_neg (by omega), if_neg (by omega), if_pos ⟨trivial, trivial, trivial⟩, Or.inl ⟨hc, if_neg (by omega), trivial⟩⟩
  · simp only [if_neg hc, zz_nt3, zz_zs, cn_nt1, cn_zs]
    refine ⟨fun k hk => ?_, ?_, ?_, Or.inr ⟨hc, if_pos ⟨trivial, trivial, trivial⟩, trivial⟩⟩
    · rw [if_neg (by omega), if_neg (by omega)]
    · rw [if_neg (by omega), if_neg (by omega)]
    · rw [if_neg (by omega), if_pos ⟨trivial, trivial, trivial⟩]
def MIv (q p : AS) (i : Nat) : Prop := BI p ∧ Low q p ∧ (∀ j, i ≤ j → j < lcn q → Row (FS q (cn q 0)) p (lti q j)) ∧ (∀ t, t < cn q 1 → cn p (100 + t) + lcn p ≤ cn q (100 + t) + lcn q + 1) ∧ lcn p ≤ lcn q
theorem miss_BI {p : AS} (hB : BI p) {t : Nat} (ht : t < cn p 1) (hl : zz p 3 t 7 = 0) (hh : cn p (100 + t) ≤ 450) : BI (mssA p t) ∧ (∀ t', t' < cn p 1 → cn (mssA p t) (100 + t') + lcn (mssA p t) ≤ cn p (100 + t') + lcn p + if t' = t then 1 else 0) ∧ lcn (mssA p t) ≤ lcn p := by
  obtain ⟨r1, r2, r3, r4⟩ := mss_row p t
  have hL : lcn (mssA p t) ≤ lcn p ∧ cn (mssA p t) (100 + t) + lcn (mssA p t) ≤ cn p (100 + t) + lcn p + 1 := by
    rcases r4 with ⟨-, a, b⟩ | ⟨-, a, b⟩
    · have := (lcn_same QT.mss a).2
      omega
    · have := lcn_drop QT.mss ht (decide_eq_true hl) (decide_eq_false (by rw [a]; decide))
      omega
  refine ⟨hB.trk QT.mss ⟨?_, ?_, ?_⟩ ?_, fun t' h' => ?_, hL.1⟩
  · rw [r1 0 (by decide), r1 1 (by decide), r1 2 (by decide), r1 3 (by decide), r1 4 (by decide)]
    exact hB.bt t ht
  · rcases r4 with ⟨-, a, b⟩ | ⟨-, a, b⟩
    · rw [a]; exact hB.bs t ht
    · rw [a]; exact Or.inr (Or.inl rfl)
  · have := hB.bh t ht
    rcases r4 with ⟨-, a, b⟩ | ⟨-, a, b⟩ <;> rw [b] <;> omega
  · have := hB.bv
    exact Nat.le_trans hL.1 this
  · by_cases he : t' = t
    · rw [if_pos he, he]; exact hL.2
    · rw [if_neg he, (QT.mss.row he).2.2]
      have := hL.1
      omega
theorem MS_I {q : AS} (hB : BI q) (hh : ∀ t, t < cn q 1 → cn q (100 + t) ≤ 400) : ∀ i, i ≤ lcn q → MIv q (MS q i) i
  | 0, _ => by
    obtain ⟨h1, h2, h3, h4, h5⟩ := FS_I hB hh (cn q 0) (Nat.le_refl _)
    have e : lcn (FS q (cn q 0)) = lcn q := by
      unfold lcn
      rw [h2.1 1 (by decide)]
      exact cntP_cong (fun j _ => by unfold liveP; rw [(h3 j).1])
    refine ⟨h1, h2, fun j _ _ => Row.rf, fun t ht => ?_, Nat.le_of_eq e⟩
    show cn (FS q (cn q 0)) (100 + t) + lcn (FS q (cn q 0)) ≤ _
    have := h5 t ht
    omega
  | i + 1, hi => by
    obtain ⟨h1, h2, h3, h4, h6⟩ := MS_I hB hh i (by omega)
    show MIv q (if hasR q i = true then MS q i else mssA (MS q i) (lti q i)) (i + 1)
    by_cases hc : hasR q i = true
    · rw [if_pos hc]
      exact ⟨h1, h2, fun j a b => h3 j (by omega) b, h4, h6⟩
    · rw [if_neg hc]
      obtain ⟨f1, f2, f3, f4, f5⟩ := FS_I hB hh (cn q 0) (Nat.le_refl _)
      obtain ⟨hlt, hl0⟩ := lti_lt q (show i < lcn q by omega)
      have hrow := h3 i (Nat.le_refl _) (by omega)
      have hfr : Row q (FS q (cn q 0)) (lti q i) := f4 _ (fun r' a b z => by
        obtain ⟨i', x, y, -, w⟩ := tkr_nn q a (by omega)
        rw [w] at z
        have := lti_inj q y (by omega) z
        subst this
        exact hc (anyP_iff.mpr ⟨r', a, decide_eq_true x⟩))
      have hr2 := hfr.tr hrow
      have hcn := h4 _ hlt
      have e1 := h2.1 1 (by decide)
      have hq4 := hh _ hlt
      obtain ⟨m1, m2, m3⟩ := miss_BI h1 (t := lti q i) (by omega) (by rw [hr2.1]; exact hl0) (by rw [hr2.2.2]; omega)
      refine ⟨m1, h2.tr QT.mss.low, fun j a b => (h3 j (by omega) b).tr (QT.mss.row (fun z => by have := lti_inj q b (by omega) z; omega)), fun t ht => ?_, Nat.le_trans m3 h6⟩
      have k1 := m2 t (by omega)
      by_cases he : t = lti q i
      · rw [if_pos he] at k1
        have k2 : cn (MS q i) (100 + t) = cn q (100 + t) := by rw [he]; exact hr2.2.2
        omega
      · rw [if_neg he] at k1
        have := h4 t ht
        omega
/-! ## beginning -/
def HB (p : AS) (B : Nat) : Prop := ∀ t, t < cn p 1 → cn p (100 + t) + lcn p ≤ B + cn p 1
theorem new_row (q : AS) (r k : Nat) : zz (newA q r) 3 (cn q 1) k = bgnR q r k := if_pos ⟨rfl, rfl⟩
theorem new_old (q : AS) (r : Nat) {i j k : Nat} (h : ¬ ((i = 3 ∨ i = 4) ∧ j = cn q 1)) : zz (newA q r) i j k = zz q i j k := by
  show (if _ then _ else if _ then _ else _) = _
  rw [if_neg (fun z => h ⟨Or.inl z.1, z.2⟩), if_neg (fun z => h ⟨Or.inr z.1, z.2.1⟩)]
theorem new_cn1 (q : AS) (r : Nat) : cn (newA q r) 1 = cn q 1 + 1 := rfl
theorem new_cnt (q : AS) (r : Nat) : cn (newA q r) (100 + cn q 1) = 1 := by
  show (if _ then _ else if _ then _ else _) = _
  rw [if_neg (by omega), if_pos rfl]
theorem new_cn (q : AS) (r : Nat) {k : Nat} (h : k ≠ 1) (h2 : k ≠ 100 + cn q 1) : cn (newA q r) k = cn q k := by
  show (if _ then _ else if _ then _ else _) = _
  rw [if_neg h, if_neg h2]
theorem new_live (q : AS) (r : Nat) : lcn (newA q r) = lcn q + 1 := by
  unfold lcn
  rw [new_cn1, cntP_t (by unfold liveP; rw [new_row]; rfl)]
  rw [cntP_cong (p := liveP (newA q r)) (q := liveP q) (fun j hj => by unfold liveP; rw [new_old q r (by omega)])]
theorem bgn_BI {p : AS} (hB : BI p) {B r : Nat} (hr : r < cn p 0) (hh : HB p B) (hB1 : 1 ≤ B) : BI (bgnA p r) ∧ HB (bgnA p r) B ∧ (∀ k, k < 100 → k ≠ 1 → k ≠ 3 → cn (bgnA p r) k = cn p k) ∧ (∀ i, i < 3 → ∀ j k, zz (bgnA p r) i j k = zz p i j k) := by
  unfold bgnA
  by_cases hc : 6 ≤ lcn p ∨ 60 ≤ cn p 1
  · rw [if_pos hc]
    have e : ∀ k, k ≠ 3 → cn (cs p 3 (cn p 3 + 1)) k = cn p k := fun k hk => by rw [cn_cs, if_neg hk]
    refine ⟨⟨?_, ?_, fun i hi => ?_, fun i hi h1 => ?_, fun i hi h1 => ?_, fun r hr => ?_, fun t' h' => ?_, fun t' h' => ?_, hB.g0, hB.g1, hB.g2, hB.g3, hB.g4, ?_, fun t' h' => ?_⟩, fun t ht => ?_, fun k _ _ h3 => e k h3, fun i hi j k => rfl⟩
    · rw [e 0 (by decide)]; exact hB.b0
    · rw [e 1 (by decide)]; exact hB.b1
    · rw [e _ (by omega)]; exact hB.bc i hi
    · rw [e _ (by omega)] at h1; exact hB.bl i hi h1
    · rw [e _ (by omega)] at h1; exact hB.be i hi h1
    · rw [e 0 (by decide)] at hr; exact hB.br r hr
    · rw [e 1 (by decide)] at h'; exact hB.bt t' h'
    · rw [e 1 (by decide)] at h'; exact hB.bs t' h'
    · rw [e 1 (by decide)]; exact hB.bv
    · rw [e 1 (by decide)] at h'; rw [e _ (by omega)]; exact hB.bh t' h'
    · rw [e 1 (by decide)] at ht ⊢
      rw [e _ (by omega)]
      unfold lcn
      rw [e 1 (by decide)]
      exact hh t ht
  · rw [if_neg hc]
    have e : ∀ k, k < 100 → k ≠ 1 → cn (newA p r) k = cn p k := fun k h1 h2 => new_cn p r h2 (by omega)
    have ez : ∀ i, i < 3 → ∀ j k, zz (newA p r) i j k = zz p i j k := fun i hi j k => new_old p r (by omega)
    have e3 : ∀ t, t < cn p 1 → ∀ k, zz (newA p r) 3 t k = zz p 3 t k := fun t ht k => new_old p r (by omega)
    have ec : ∀ t, t < cn p 1 → cn (newA p r) (100 + t) = cn p (100 + t) := fun t ht => new_cn p r (by omega) (by omega)
    have hL := new_live p r
    have hLe : lcn p ≤ cn p 1 := cntP_le _ _
    refine ⟨⟨?_, ?_, fun i hi => ?_, fun i hi h1 => ?_, fun i hi h1 => ?_, fun r hr => ?_, fun t' h' => ?_, fun t' h' => ?_, ?_, ?_, ?_, ?_, ?_, ?_, fun t' h' => ?_⟩, fun t ht => ?_, fun k h1 h2 _ => e k h1 h2, ez⟩
    · rw [e 0 (by decide) (by decide)]; exact hB.b0
    · rw [new_cn1]; omega
    · rw [e _ (by omega) (by omega)]; exact hB.bc i hi
    · rw [e _ (by omega) (by omega)] at h1
      rw [ez 1 (by decide), ez 1 (by decide)]; exact hB.bl i hi h1
    · rw [e _ (by omega) (by omega)] at h1
      rw [ez 1 (by decide), ez 1 (by decide), ez 1 (by decide), ez 1 (by decide)]; exact hB.be i hi h1
    · rw [e 0 (by decide) (by decide)] at hr
      rw [ez 2 (by decide), ez 2 (by decide), ez 2 (by decide)]; exact hB.br r hr
    · rw [new_cn1] at h'
      by_cases he : t' = cn p 1
      · rw [he, new_row, new_row, new_row, new_row, new_row]
        obtain ⟨b0, b1, b2⟩ := hB.br r hr
        show bd (zz p 2 r 0) _ _ ∧ bd (16 * zz p 2 r 1) _ _ ∧ bd (16 * zz p 2 r 2) _ _ ∧ bd 0 _ _ ∧ bd 0 _ _
        unfold bd at *
        omega
      · have hl : t' < cn p 1 := by omega
        rw [e3 t' hl, e3 t' hl, e3 t' hl, e3 t' hl, e3 t' hl]; exact hB.bt t' hl
    · rw [new_cn1] at h'
      by_cases he : t' = cn p 1
      · rw [he, new_row]; exact Or.inl rfl
      · rw [e3 t' (by omega)]; exact hB.bs t' (by omega)
    · rw [ez 0 (by decide)]; exact hB.g0
    · rw [ez 0 (by decide)]; exact hB.g1
    · rw [ez 0 (by decide)]; exact hB.g2
    · rw [ez 0 (by decide)]; exact hB.g3
    · rw [ez 0 (by decide)]; exact hB.g4
    · show lcn (newA p r) ≤ 6
      omega
    · rw [new_cn1] at h'
      by_cases he : t' = cn p 1
      · rw [he, new_cnt]; omega
      · rw [ec t' (by omega)]; exact hB.bh t' (by omega)
    · rw [new_cn1] at ht ⊢
      rw [hL]
      by_cases he : t = cn p 1
      · rw [he, new_cnt]; omega
      · rw [ec t (by omega)]
        have := hh t (by omega)
        omega
def GI (q p : AS) (B : Nat) : Prop := BI p ∧ HB p B ∧ (∀ k, k < 100 → k ≠ 1 → k ≠ 3 → cn p k = cn q k) ∧ (∀ i, i < 3 → ∀ j k, zz p i j k = zz q i j k)
theorem BG_I {q : AS} (hB : BI q) {B : Nat} (hh : HB q B) (hb : B ≤ 300) : ∀ r, r ≤ cn q 0 → GI q (BG q r) (B + 1)
  | 0, _ => by
    have hh4 : ∀ t, t < cn q 1 → cn q (100 + t) ≤ 400 := fun t ht => by have := hh t ht; have := hB.b1; omega
    obtain ⟨h1, h2, h3, h4, h5⟩ := MS_I hB hh4 (lcn q) (Nat.le_refl _)
    refine ⟨h1, fun t ht => ?_, fun k hk _ _ => h2.1 k hk, h2.2⟩
    have e1 := h2.1 1 (by decide)
    show cn (MS q (lcn q)) (100 + t) + lcn (MS q (lcn q)) ≤ B + 1 + cn (MS q (lcn q)) 1
    have ht2 : t < cn (MS q (lcn q)) 1 := ht
    have := h4 t (by omega)
    have := hh t (by omega)
    omega
  | r + 1, hr => by
    obtain ⟨h1, h2, h3, h4⟩ := BG_I hB hh hb r (by omega)
    show GI q (if tkr q r < 0 then bgnA (BG q r) r else BG q r) (B + 1)
    split
    · have e0 := h3 0 (by decide) (by decide) (by decide)
      obtain ⟨g1, g2, g3, g4⟩ := bgn_BI h1 (r := r) (by omega) h2 (by omega)
      exact ⟨g1, g2, fun k a b c => (g3 k a b c).trans (h3 k a b c), fun i hi j k => (g4 i hi j k).trans (h4 i hi j k)⟩
    · exact ⟨h1, h2, h3, h4⟩
/-! ## merging -/
theorem abs_row (q : AS) (a b : Nat) : (∀ k, k ≠ 5 → zz (absA q a b) 3 a k = zz q 3 a k) ∧ zz (absA q a b) 3 a 5 = zz q 3 a 5 + zz q 3 b 5 ∧ cn (absA q a b) (100 + a) = cn q (100 + a) + 1 := by
  unfold absA
  simp only [zz_nt3, zz_zs, cn_nt1, cn_zs]
  exact ⟨fun k hk => if_neg (fun z => hk z.2.2), if_pos ⟨trivial, trivial, trivial⟩, trivial⟩
theorem into_row (q : AS) (a b : Nat) : (∀ k, k ≠ 7 → k ≠ 8 → zz (intoA q a b) 3 b k = zz q 3 b k) ∧ zz (intoA q a b) 3 b 7 = 2 ∧ zz (intoA q a b) 3 b 8 = a ∧ cn (intoA q a b) (100 + b) = cn q (100 + b) + 1 := by
  unfold intoA
  simp only [zz_nt3, zz_zs, cn_nt1, cn_zs]
  refine ⟨fun k h7 h8 => ?_, ?_, if_pos ⟨trivial, trivial, trivial⟩, trivial⟩
  · rw [if_neg (fun z => h8 z.2.2), if_neg (fun z => h7 z.2.2)]
  · rw [if_neg (by omega), if_pos ⟨trivial, trivial, trivial⟩]
theorem abs_BI {p : AS} (hB : BI p) {a b : Nat} (ha : a < cn p 1) (hh : cn p (100 + a) ≤ 450) : BI (absA p a b) ∧ lcn (absA p a b) = lcn p ∧ liveP (absA p a b) = liveP p := by
  obtain ⟨r1, r2, r3⟩ := abs_row p a b
  have hl := lcn_same (QT.abs (q := p) (a := a) (b := b)) (r1 7 (by decide))
  refine ⟨hB.trk QT.abs ⟨?_, ?_, ?_⟩ ?_, hl.2, hl.1⟩
  · rw [r1 0 (by decide), r1 1 (by decide), r1 2 (by decide), r1 3 (by decide), r1 4 (by decide)]
    exact hB.bt a ha
  · rw [r1 7 (by decide)]; exact hB.bs a ha
  · rw [r3]; omega
  · show lcn (absA p a b) ≤ 6
    rw [hl.2]; exact hB.bv
theorem into_BI {p : AS} (hB : BI p) {a b : Nat} (hb : b < cn p 1) (hl : liveP p b = true) (hh : cn p (100 + b) ≤ 450) : BI (intoA p a b) ∧ lcn (intoA p a b) + 1 = lcn p := by
  obtain ⟨r1, r2, r3, r4⟩ := into_row p a b
  have hL := lcn_drop (QT.into (q := p) (a := a) (b := b)) hb hl (decide_eq_false (by rw [r2]; decide))
  refine ⟨hB.trk QT.into ⟨?_, ?_, ?_⟩ ?_, hL⟩
  · rw [r1 0 (by decide) (by decide), r1 1 (by decide) (by decide), r1 2 (by decide) (by decide), r1 3 (by decide) (by decide), r1 4 (by decide) (by decide)]
    exact hB.bt b hb
  · rw [r2]; exact Or.inr (Or.inr rfl)
  · rw [r4]; omega
  · have := hB.bv
    show lcn (intoA p a b) ≤ 6
    unfold lcn at *
    omega
theorem mrg_BI {p : AS} (hB : BI p) {a b B : Nat} (hb : b < cn p 1) (hab : a < b) (hl : liveP p b = true) (hh : HB p B) (hB3 : B ≤ 301) : BI (absA p a b) ∧ BI (mrgA p a b) ∧ HB (mrgA p a b) B ∧ Low p (mrgA p a b) ∧ (∀ t, t ≠ b → liveP (mrgA p a b) t = liveP p t) := by
  have h60 := hB.b1
  have ha2 := hh a (by omega)
  have hb2 := hh b hb
  obtain ⟨a1, a2, a3⟩ := abs_BI hB (a := a) (b := b) (by omega) (by omega)
  have hrow := (QT.abs (q := p) (a := a) (b := b)).row (show b ≠ a by omega)
  have e1 := (QT.abs (q := p) (a := a) (b := b)).low.1 1 (by decide)
  obtain ⟨b1, b2⟩ := into_BI a1 (a := a) (b := b) (by omega) (by rw [a3]; exact hl) (by rw [hrow.2.2]; omega)
  have e2 := (QT.into (q := absA p a b) (a := a) (b := b)).low.1 1 (by decide)
  refine ⟨a1, b1, fun t ht => ?_, QT.abs.low.tr QT.into.low, fun t ht => (live_QT QT.into ht).trans (congrFun a3 t)⟩
  have ht2 : t < cn p 1 := by
    have : t < cn (intoA (absA p a b) a b) 1 := ht
    omega
  show cn (intoA (absA p a b) a b) (100 + t) + lcn (intoA (absA p a b) a b) ≤ B + cn (intoA (absA p a b) a b) 1
  have hold := hh t ht2
  by_cases h1 : t = b
  · rw [h1, (into_row _ _ _).2.2.2, hrow.2.2]
    rw [h1] at hold
    omega
  · rw [(QT.into.row h1).2.2]
    by_cases h2 : t = a
    · rw [h2, (abs_row _ _ _).2.2]
      rw [h2] at hold
      omega
    · rw [(QT.abs.row h2).2.2]
      omega
def NI (p s : AS) (B : Nat) : Prop := BI s ∧ HB s B ∧ Low p s
theorem MI_I {p : AS} (hB : BI p) {a B : Nat} (hh : HB p B) (hB3 : B ≤ 301) : ∀ b, b ≤ cn p 1 → NI p (MI a p b) B ∧ (liveP (MI a p b) a = liveP p a)
  | 0, _ => ⟨⟨hB, hh, Low.rf⟩, rfl⟩
  | b + 1, hb => by
    obtain ⟨⟨h1, h2, h3⟩, h4⟩ := MI_I hB (a := a) hh hB3 b (by omega)
    show NI p (if a < b ∧ liveP (MI a p b) b = true ∧ nrA (MI a p b) a b = true then mrgA (MI a p b) a b else MI a p b) B ∧ liveP (if a < b ∧ liveP (MI a p b) b = true ∧ nrA (MI a p b) a b = true then mrgA (MI a p b) a b else MI a p b) a = _
    by_cases hc : a < b ∧ liveP (MI a p b) b = true ∧ nrA (MI a p b) a b = true
    · rw [if_pos hc]
      have e1 := h3.1 1 (by decide)
      obtain ⟨-, g1, g2, g3, g4⟩ := mrg_BI h1 (by omega) hc.1 hc.2.1 h2 hB3
      exact ⟨⟨g1, g2, h3.tr g3⟩, (g4 a (by omega)).trans h4⟩
    · rw [if_neg hc]
      exact ⟨⟨h1, h2, h3⟩, h4⟩
theorem MA_I {q : AS} (hB : BI (BG q (cn q 0))) {B : Nat} (hh : HB (BG q (cn q 0)) B) (hB3 : B ≤ 301) : ∀ a, a ≤ cn (BG q (cn q 0)) 1 → NI (BG q (cn q 0)) (MA q a) B
  | 0, _ => ⟨hB, hh, Low.rf⟩
  | a + 1, ha => by
    obtain ⟨h1, h2, h3⟩ := MA_I hB hh hB3 a (by omega)
    show NI _ (if liveP (MA q a) a = true then MI a (MA q a) (cn (MA q a) 1) else MA q a) B
    split
    · obtain ⟨⟨g1, g2, g3⟩, -⟩ := MI_I h1 (a := a) h2 hB3 (cn (MA q a) 1) (Nat.le_refl _)
      exact ⟨g1, g2, h3.tr g3⟩
    · exact ⟨h1, h2, h3⟩
theorem fin_cn (p : AS) {k : Nat} (h : k ≠ 0) (h2 : k ≠ 2) : cn (fin0 p) k = cn p k := by
  unfold fin0
  rw [cn_cs, if_neg h, cn_cs, if_neg h2]
theorem fin_BI {p : AS} (hB : BI p) : BI (fin0 p) := by
  have e1 := fin_cn p (k := 1) (by decide) (by decide)
  refine ⟨Nat.zero_le _, by rw [e1]; exact hB.b1, fun i hi => by rw [fin_cn p (by omega) (by omega)]; exact hB.bc i hi, fun i hi h => by rw [fin_cn p (by omega) (by omega)] at h; exact hB.bl i hi h, fun i hi h => by rw [fin_cn p (by omega) (by omega)] at h; exact hB.be i hi h, fun r hr => by exact absurd hr (Nat.not_lt_zero r), fun t ht => by rw [e1] at ht; exact hB.bt t ht, fun t ht => by rw [e1] at ht; exact hB.bs t ht, hB.g0, hB.g1, hB.g2, hB.g3, hB.g4, by rw [e1]; exact hB.bv, fun t ht => by rw [e1] at ht; rw [fin_cn p (by omega) (by omega)]; exact hB.bh t ht⟩
theorem pr_I {q : AS} (hB : BI q) {B : Nat} (hh : HB q B) (hb : B ≤ 300) : BI (prA q) ∧ HB (prA q) (B + 1) := by
  obtain ⟨g1, g2, g3, g4⟩ := BG_I hB hh hb (cn q 0) (Nat.le_refl _)
  obtain ⟨h1, h2, h3⟩ := MA_I g1 g2 (by omega) (cn (BG q (cn q 0)) 1) (Nat.le_refl _)
  refine ⟨fin_BI h1, fun t ht => ?_⟩
  have e1 := fin_cn (MA q (cn (BG q (cn q 0)) 1)) (k := 1) (by decide) (by decide)
  have ht2 : t < cn (fin0 (MA q (cn (BG q (cn q 0)) 1))) 1 := ht
  show cn (fin0 (MA q (cn (BG q (cn q 0)) 1))) (100 + t) + lcn (fin0 (MA q (cn (BG q (cn q 0)) 1))) ≤ B + 1 + cn (fin0 (MA q (cn (BG q (cn q 0)) 1))) 1
  rw [fin_cn _ (by omega) (by omega)]
  unfold lcn
  rw [e1] at ht2 ⊢
  exact h2 t ht2
