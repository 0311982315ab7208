theorem smN_cg {f g : Nat → Nat} : ∀ n, (∀ j, j < n → g j = f j) → smN g n = smN f n
  | 0, _ => rfl
  | n + 1, h => by
    show smN g n + g n = smN f n + f n
    rw [smN_cg n (fun j hj => h j (by omega)), h n (by omega)]
/-! what the signs, the goals of merging and the accounts keep to -/
theorem smN_add {f g : Nat → Nat} {t d : Nat} (h : ∀ j, j ≠ t → g j = f j) (ht : g t = f t + d) : ∀ n, t < n → smN g n = smN f n + d
  | n + 1, hn => by
    show smN g n + g n = smN f n + f n + d
    by_cases e : n = t
    · subst e
      have : smN g n = smN f n := smN_cg n (fun j hj => h j (by omega))
      omega
    · have := smN_add h ht n (by omega)
      rw [h n e]
      omega
theorem sgP_nt {q : AS} {t : Nat} {x : Int} {y : Int32} : cntP (sgP (ntA q t x) t y) (cn (ntA q t x) (100 + t)) = cntP (sgP q t y) (cn q (100 + t)) + (if iO x = y then 1 else 0) := by
  rw [cn_nt1]
  have hold : cntP (sgP (ntA q t x) t y) (cn q (100 + t)) = cntP (sgP q t y) (cn q (100 + t)) := cntP_cong (fun j hj => by
    unfold sgP
    rw [zz_nt, if_neg (by omega)])
  show cntP (sgP (ntA q t x) t y) (cn q (100 + t)) + (if sgP (ntA q t x) t y (cn q (100 + t)) then 1 else 0) = _
  rw [hold]
  have e : sgP (ntA q t x) t y (cn q (100 + t)) = decide (iO x = y) := by
    unfold sgP
    rw [zz_nt, if_pos ⟨rfl, rfl, rfl⟩]
  rw [e]
  by_cases c : iO x = y
  · rw [if_pos c, decide_eq_true c, if_pos rfl]
  · rw [if_neg c, decide_eq_false c, if_neg (by decide)]
def SG (q : AS) (y : Int32) : Nat := sgc q y (cn q 1)
theorem sg_nt {q : AS} {t : Nat} (ht : t < cn q 1) (x : Int) (y : Int32) : SG (ntA q t x) y = SG q y + (if iO x = y then 1 else 0) := by
  unfold SG sgc
  rw [show cn (ntA q t x) 1 = cn q 1 from QT.nt.1 1 (by omega)]
  refine smN_add (t := t) (fun j hj => ?_) sgP_nt _ ht
  have r := (QT.nt (q := q) (t := t) (x := x)).row hj
  show cntP (sgP (ntA q t x) j y) (cn (ntA q t x) (100 + j)) = cntP (sgP q j y) (cn q (100 + j))
  rw [r.2.2]
  exact cntP_cong (fun k _ => by unfold sgP; rw [r.2.1])
theorem sg_same {q p : AS} (h1 : ∀ k, cn p k = cn q k) (h2 : ∀ t k, zz p 4 t k = zz q 4 t k) (y : Int32) : SG p y = SG q y := by
  unfold SG sgc
  rw [h1]
  exact smN_cg _ (fun j _ => by rw [h1]; exact cntP_cong (fun k _ => by unfold sgP; rw [h2]))
theorem SGB.nt {q : AS} {t : Nat} {x : Int} (h : SGB q) (hx : bd x 0 200) : SGB (ntA q t x) := fun t' ht k hk => by
  rw [show cn (ntA q t x) 1 = cn q 1 from QT.nt.1 1 (by omega)] at ht
  rw [zz_nt]
  by_cases c : 4 = 4 ∧ t' = t ∧ k = cn q (100 + t)
  · rw [if_pos c]; exact hx
  · rw [if_neg c]
    refine h t' ht k ?_
    rw [cn_nt] at hk
    by_cases e : 100 + t' = 100 + t
    · rw [if_pos e] at hk
      have e2 : t' = t := by omega
      subst e2
      have : k ≠ cn q (100 + t') := fun z => c ⟨rfl, rfl, z⟩
      omega
    · rw [if_neg e] at hk; exact hk
theorem SGB.same {q p : AS} (h : SGB q) (h1 : ∀ k, cn p k = cn q k) (h2 : ∀ t k, zz p 4 t k = zz q 4 t k) : SGB p := fun t ht k hk => by
  rw [h1] at ht hk
  rw [h2]
  exact h t ht k hk
def KP (q p : AS) (h n : Nat) : Prop := SGB p ∧ ITO p ∧ SG p 104 = SG q 104 + h ∧ SG p 110 + cn p 3 = SG q 110 + cn q 3 + n
theorem KP.tr {q p s : AS} {h n h' n' : Nat} (a : KP q p h n) (b : KP p s h' n') : KP q s (h + h') (n + n') := ⟨b.1, b.2.1, by have := a.2.2.1; have := b.2.2.1; omega, by have := a.2.2.2; have := b.2.2.2; omega⟩
theorem KP.rf {q : AS} (h : SGB q) (g : ITO q) : KP q q 0 0 := ⟨h, g, rfl, rfl⟩
theorem z4_rw {q : AS} {t : Nat} {w : Nat → Int} (t' k : Nat) : zz (rwA q t w) 4 t' k = zz q 4 t' k := by
  show (if 4 = 3 ∧ t' = t then w k else zz q 4 t' k) = _
  rw [if_neg (by omega)]
theorem new_110 (q : AS) (r : Nat) : zz (newA q r) 4 (cn q 1) 0 = 110 := by
  show (if 4 = 3 ∧ cn q 1 = cn q 1 then bgnR q r 0 else if 4 = 4 ∧ cn q 1 = cn q 1 ∧ 0 = 0 then 110 else zz q 4 (cn q 1) 0) = 110
  rw [if_neg (by omega), if_pos ⟨rfl, rfl, rfl⟩]
theorem z4_zs {q : AS} {t m : Nat} {v : Int} (t' k : Nat) : zz (zs q 3 t m v) 4 t' k = zz q 4 t' k := by rw [zz_zs, if_neg (by omega)]
theorem ITO.trk {q p : AS} {t : Nat} (h : ITO q) (hq : QT q p t) (ht : t < cn q 1 → zz p 3 t 7 = 2 → bd (zz p 3 t 8) 0 60) : ITO p := fun t' h' h7 => by
  rw [hq.1 1 (by omega)] at h'
  by_cases e : t' = t
  · subst e; exact ht h' h7
  · have r := hq.row e
    rw [r.1] at h7 ⊢
    exact h t' h' h7
theorem flw_KP {q : AS} {r t : Nat} (h : SGB q) (g : ITO q) (ht : t < cn q 1) : KP q (flwA q r t) 1 0 := by
  have e : ∀ y, SG (rwA q t (flwR q r t)) y = SG q y := sg_same (fun _ => rfl) z4_rw
  refine ⟨SGB.nt (h.same (fun _ => rfl) z4_rw) (by unfold bd; omega), ITO.trk g QT.flw (fun h1 h7 => ?_), ?_, ?_⟩
  · rw [flw_row] at h7 ⊢; exact g t h1 h7
  · exact (sg_nt (q := rwA q t (flwR q r t)) ht 104 104).trans (by rw [e, if_pos (by decide)])
  · have := (sg_nt (q := rwA q t (flwR q r t)) ht 104 110)
    rw [e, if_neg (by decide)] at this
    show SG (ntA (rwA q t (flwR q r t)) t 104) 110 + cn (flwA q r t) 3 = _
    rw [this, (QT.flw (q := q) (r := r) (t := t)).low.1 3 (by decide)]
    omega
theorem mss_KP {q : AS} {t : Nat} (h : SGB q) (g : ITO q) (ht : t < cn q 1) : KP q (mssA q t) 0 0 := by
  have hI : ITO (mssA q t) := ITO.trk g QT.mss (fun h1 h7 => by
    obtain ⟨-, r2, -, r4⟩ := mss_row q t
    rw [r2]
    rcases r4 with ⟨-, a, -⟩ | ⟨-, a, -⟩
    · rw [a] at h7; exact g t h1 h7
    · rw [a] at h7; omega)
  have e : ∀ y, SG (zs q 3 t 6 (zz q 3 t 6 + 1)) y = SG q y := sg_same (fun _ => rfl) z4_zs
  have s1 : ∀ y, SG (ntA (zs q 3 t 6 (zz q 3 t 6 + 1)) t 120) y = SG q y + (if iO 120 = y then 1 else 0) := fun y => (sg_nt (q := zs q 3 t 6 (zz q 3 t 6 + 1)) ht 120 y).trans (by rw [e])
  have b1 : SGB (ntA (zs q 3 t 6 (zz q 3 t 6 + 1)) t 120) := SGB.nt (h.same (fun _ => rfl) z4_zs) (by unfold bd; omega)
  have c3 := (QT.mss (q := q) (t := t)).low.1 3 (by decide)
  by_cases hc : iO (zz q 3 t 6) + 1 < iO (zz q 0 0 3)
  · have eA : mssA q t = ntA (zs q 3 t 6 (zz q 3 t 6 + 1)) t 120 := by
      unfold mssA
      dsimp only
      rw [if_pos hc]
    refine ⟨by rw [eA]; exact b1, hI, ?_, ?_⟩
    · rw [eA, s1, if_neg (by decide)]
    · rw [c3, eA, s1, if_neg (by decide)]; rfl
  · have eA : mssA q t = ntA (zs (ntA (zs q 3 t 6 (zz q 3 t 6 + 1)) t 120) 3 t 7 1) t 108 := by
      unfold mssA
      dsimp only
      rw [if_neg hc]
    have e2 : ∀ y, SG (zs (ntA (zs q 3 t 6 (zz q 3 t 6 + 1)) t 120) 3 t 7 1) y = SG (ntA (zs q 3 t 6 (zz q 3 t 6 + 1)) t 120) y := sg_same (fun _ => rfl) z4_zs
    have ht2 : t < cn (zs (ntA (zs q 3 t 6 (zz q 3 t 6 + 1)) t 120) 3 t 7 1) 1 := by rw [cn_zs, show cn (ntA (zs q 3 t 6 (zz q 3 t 6 + 1)) t 120) 1 = cn q 1 from (QT.nt (q := zs q 3 t 6 (zz q 3 t 6 + 1))).1 1 (by omega)]; exact ht
    have s2 : ∀ y, SG (mssA q t) y = SG q y + (if iO 120 = y then 1 else 0) + (if iO 108 = y then 1 else 0) := fun y => by
      rw [eA]
      exact (sg_nt ht2 108 y).trans (by rw [e2, s1])
    refine ⟨by rw [eA]; exact SGB.nt (b1.same (fun _ => rfl) z4_zs) (by unfold bd; omega), hI, ?_, ?_⟩
    · rw [s2, if_neg (by decide), if_neg (by decide)]
    · rw [c3, s2, if_neg (by decide), if_neg (by decide)]; rfl
theorem abs_KP {q : AS} {a b : Nat} (h : SGB q) (g : ITO q) (ha : a < cn q 1) : KP q (absA q a b) 0 0 := by
  have e : ∀ y, SG (zs q 3 a 5 (zz q 3 a 5 + zz q 3 b 5)) y = SG q y := sg_same (fun _ => rfl) z4_zs
  have s1 : ∀ y, SG (absA q a b) y = SG q y + (if iO 103 = y then 1 else 0) := fun y => (sg_nt (q := zs q 3 a 5 (zz q 3 a 5 + zz q 3 b 5)) ha 103 y).trans (by rw [e])
  obtain ⟨r1, -, -⟩ := abs_row q a b
  refine ⟨SGB.nt (h.same (fun _ => rfl) z4_zs) (by unfold bd; omega), ITO.trk g QT.abs (fun h1 h7 => by rw [r1 7 (by decide)] at h7; rw [r1 8 (by decide)]; exact g a h1 h7), by rw [s1, if_neg (by decide)], by rw [s1, if_neg (by decide), (QT.abs (q := q) (a := a) (b := b)).low.1 3 (by decide)]; rfl⟩
theorem into_KP {q : AS} {a b : Nat} (h : SGB q) (g : ITO q) (hb : b < cn q 1) (ha : a < 60) : KP q (intoA q a b) 0 0 := by
  have e : ∀ y, SG (zs (zs q 3 b 7 2) 3 b 8 (a : Int)) y = SG q y := fun y => (sg_same (fun _ => rfl) z4_zs y).trans (sg_same (fun _ => rfl) z4_zs y)
  have s1 : ∀ y, SG (intoA q a b) y = SG q y + (if iO 109 = y then 1 else 0) := fun y => (sg_nt (q := zs (zs q 3 b 7 2) 3 b 8 (a : Int)) hb 109 y).trans (by rw [e])
  obtain ⟨-, -, r3, -⟩ := into_row q a b
  refine ⟨SGB.nt ((h.same (p := zs q 3 b 7 2) (fun _ => rfl) z4_zs).same (fun _ => rfl) z4_zs) (by unfold bd; omega), ITO.trk g QT.into (fun h1 h7 => by rw [r3]; unfold bd; omega), by rw [s1, if_neg (by decide)], by rw [s1, if_neg (by decide), (QT.into (q := q) (a := a) (b := b)).low.1 3 (by decide)]; rfl⟩
theorem mrg_KP {q : AS} {a b : Nat} (h : SGB q) (g : ITO q) (hn : cn q 1 ≤ 60) (ha : a < cn q 1) (hb : b < cn q 1) : KP q (mrgA q a b) 0 0 := by
  have k1 := abs_KP (b := b) h g ha
  exact k1.tr (into_KP k1.1 k1.2.1 (by rw [(QT.abs (q := q) (a := a) (b := b)).low.1 1 (by decide)]; exact hb) (by omega))
theorem sg_new (q : AS) (r : Nat) (y : Int32) : SG (newA q r) y = SG q y + (if iO 110 = y then 1 else 0) := by
  unfold SG sgc
  rw [new_cn1]
  show smN (fun t => cntP (sgP (newA q r) t y) (cn (newA q r) (100 + t))) (cn q 1) + cntP (sgP (newA q r) (cn q 1) y) (cn (newA q r) (100 + cn q 1)) = _
  have h1 : smN (fun t => cntP (sgP (newA q r) t y) (cn (newA q r) (100 + t))) (cn q 1) = smN (fun t => cntP (sgP q t y) (cn q (100 + t))) (cn q 1) := smN_cg _ (fun j hj => by
    rw [new_cn q r (by omega) (by omega)]
    exact cntP_cong (fun k _ => by unfold sgP; rw [new_old q r (by omega)]))
  rw [h1, new_cnt]
  congr 1
  show 0 + (if sgP (newA q r) (cn q 1) y 0 then 1 else 0) = _
  have e : sgP (newA q r) (cn q 1) y 0 = decide (iO 110 = y) := by
    unfold sgP
    rw [new_110]
  rw [e, Nat.zero_add]
  by_cases c : iO 110 = y
  · rw [if_pos c, decide_eq_true c, if_pos rfl]
  · rw [if_neg c, decide_eq_false c, if_neg (by decide)]
theorem bgn_KP {q : AS} {r : Nat} (h : SGB q) (g : ITO q) : KP q (bgnA q r) 0 1 := by
  by_cases hc : 6 ≤ lcn q ∨ 60 ≤ cn q 1
  · rw [bgn_drop hc]
    have c1 : cn (cs q 3 (cn q 3 + 1)) 1 = cn q 1 := by rw [cn_cs, if_neg (by decide)]
    have ct : ∀ t, cn (cs q 3 (cn q 3 + 1)) (100 + t) = cn q (100 + t) := fun t => by rw [cn_cs, if_neg (by omega)]
    have e : ∀ y, SG (cs q 3 (cn q 3 + 1)) y = SG q y := fun y => by
      unfold SG sgc
      rw [c1]
      exact smN_cg _ (fun j _ => by rw [ct]; rfl)
    refine ⟨fun t ht k hk => by rw [c1] at ht; rw [ct] at hk; exact h t ht k hk, fun t ht h7 => by rw [c1] at ht; exact g t ht h7, by rw [e]; rfl, ?_⟩
    rw [e, cn_cs, if_pos rfl]
    omega
  · rw [bgn_new hc]
    refine ⟨fun t ht k hk => ?_, fun t ht h7 => ?_, by rw [sg_new, if_neg (by decide)], ?_⟩
    · rw [new_cn1] at ht
      by_cases e : t = cn q 1
      · subst e
        rw [new_cnt] at hk
        have e0 : k = 0 := by omega
        subst e0
        rw [new_110]
        unfold bd; omega
      · rw [new_cn q r (by omega) (by omega)] at hk
        rw [new_old q r (by omega)]
        exact h t (by omega) k hk
    · rw [new_cn1] at ht
      by_cases e : t = cn q 1
      · subst e
        rw [new_row] at h7
        exact absurd h7 (by show ¬ (0 : Int) = 2; omega)
      · rw [new_old q r (by omega)] at h7 ⊢
        exact g t (by omega) h7
    · rw [sg_new, if_pos (by decide), new_cn q r (by decide) (by omega)]
      omega
theorem FS_K {q : AS} (hB : BI q) (hh : ∀ t, t < cn q 1 → cn q (100 + t) ≤ 400) (h : SGB q) (g : ITO q) : ∀ r, r ≤ cn q 0 → KP q (FS q r) (TK q r) 0
  | 0, _ => KP.rf h g
  | r + 1, hr => by
    have ih := FS_K hB hh h g r (by omega)
    obtain ⟨f1, f2, -⟩ := FS_I hB hh r (by omega)
    by_cases hc : tkr q r < 0
    · rw [(FS_neg hc).1, (FS_neg hc).2]; exact ih
    · rw [(FS_pos hc).1, (FS_pos hc).2]
      obtain ⟨i, a, b, c, d⟩ := tkr_nn q (by omega) hc
      have hlt : tkt q r < cn q 1 := by rw [d]; exact (lti_lt q b).1
      have := ih.tr (flw_KP (r := r) (t := tkt q r) ih.1 ih.2.1 (by rw [f2.1 1 (by decide)]; exact hlt))
      exact this
theorem MS_K {q : AS} (hB : BI q) (hh : ∀ t, t < cn q 1 → cn q (100 + t) ≤ 400) (h : SGB q) (g : ITO q) : ∀ i, i ≤ lcn q → KP q (MS q i) (TK q (cn q 0)) 0
  | 0, _ => FS_K hB hh h g (cn q 0) (Nat.le_refl _)
  | i + 1, hi => by
    have ih := MS_K hB hh h g i (by omega)
    obtain ⟨-, m2, -⟩ := MS_I hB hh i (by omega)
    by_cases hc : hasR q i = true
    · rw [MS_t hc]; exact ih
    · rw [MS_f hc]
      exact ih.tr (mss_KP ih.1 ih.2.1 (by rw [m2.1 1 (by decide)]; exact (lti_lt q (by omega)).1))
theorem BG_K {q : AS} (hB : BI q) {B : Nat} (hh : HB q B) (hb : B ≤ 300) (h : SGB q) (g : ITO q) : ∀ r, r ≤ cn q 0 → KP q (BG q r) (TK q (cn q 0)) (r - TK q r)
  | 0, _ => by
    have hh4 : ∀ t, t < cn q 1 → cn q (100 + t) ≤ 400 := fun t ht => by have := hh t ht; have := hB.b1; omega
    exact MS_K hB hh4 h g (lcn q) (Nat.le_refl _)
  | r + 1, hr => by
    have ih := BG_K hB hh hb h g r (by omega)
    have hle := TK_le q r
    by_cases hc : tkr q r < 0
    · rw [BG_bg hc, (FS_neg hc).2]
      have := ih.tr (bgn_KP (r := r) ih.1 ih.2.1)
      rw [show r + 1 - TK q r = r - TK q r + 1 by omega]
      exact this
    · rw [BG_tk hc, (FS_pos hc).2, show r + 1 - (TK q r + 1) = r - TK q r by omega]
      exact ih
theorem MI_K {p : AS} (hB : BI p) {a B : Nat} (hh : HB p B) (hB3 : B ≤ 301) (ha : a < cn p 1) (h : SGB p) (g : ITO p) : ∀ b, b ≤ cn p 1 → KP p (MI a p b) 0 0
  | 0, _ => KP.rf h g
  | b + 1, hb => by
    have ih := MI_K hB hh hB3 ha h g b (by omega)
    obtain ⟨⟨n1, n2, n3⟩, -⟩ := MI_I hB (a := a) hh hB3 b (by omega)
    by_cases hc : a < b ∧ liveP (MI a p b) b = true ∧ nrA (MI a p b) a b = true
    · rw [MI_y hc]
      have e1 := n3.1 1 (by decide)
      exact ih.tr (mrg_KP ih.1 ih.2.1 n1.b1 (by omega) (by omega))
    · rw [MI_n hc]; exact ih
theorem MA_K {q : AS} (hB : BI (BG q (cn q 0))) {B : Nat} (hh : HB (BG q (cn q 0)) B) (hB3 : B ≤ 301) (h : SGB (BG q (cn q 0))) (g : ITO (BG q (cn q 0))) : ∀ a, a ≤ cn (BG q (cn q 0)) 1 → KP (BG q (cn q 0)) (MA q a) 0 0
  | 0, _ => KP.rf h g
  | a + 1, ha => by
    have ih := MA_K hB hh hB3 h g a (by omega)
    obtain ⟨n1, n2, n3⟩ := MA_I hB hh hB3 a (by omega)
    have e1 := n3.1 1 (by decide)
    by_cases hc : liveP (MA q a) a = true
    · rw [MA_y hc]
      exact ih.tr (MI_K n1 n2 hB3 (by omega) ih.1 ih.2.1 _ (Nat.le_refl _))
    · rw [MA_n hc]; exact ih
/-- all that the law carries of the class's state -/
def INV (q : AS) (B : Nat) : Prop := BI q ∧ HB q B ∧ ITO q ∧ SGB q ∧ cn q 2 = SG q 110 + SG q 104 + cn q 3
theorem INV.bal {q : AS} {B : Nat} (h : INV q B) : nI (cn q 2) = nI (sgc q 110 (cn q 1)) + nI (sgc q 104 (cn q 1)) + nI (cn q 3) := by
  have h5 := h.2.2.2.2
  rw [h5, nI_add', nI_add']
  rfl
theorem pr_INV {q : AS} {B : Nat} (h : INV q B) (hb : B ≤ 300) : INV (prA q) (B + 1) := by
  obtain ⟨hB, hh, hI, hS, hbal⟩ := h
  obtain ⟨g1, g2, g3, g4⟩ := BG_I hB hh hb (cn q 0) (Nat.le_refl _)
  have k1 := BG_K hB hh hb hS hI (cn q 0) (Nat.le_refl _)
  have k2 := k1.tr (MA_K g1 g2 (by omega) k1.1 k1.2.1 _ (Nat.le_refl _))
  obtain ⟨n1, n2, n3⟩ := MA_I g1 g2 (by omega) (cn (BG q (cn q 0)) 1) (Nat.le_refl _)
  obtain ⟨p1, p2⟩ := pr_I hB hh hb
  have hle := TK_le q (cn q 0)
  have c1 := fin_cn (MA q (cn (BG q (cn q 0)) 1)) (k := 1) (by decide) (by decide)
  have ct : ∀ t, cn (fin0 (MA q (cn (BG q (cn q 0)) 1))) (100 + t) = cn (MA q (cn (BG q (cn q 0)) 1)) (100 + t) := fun t => fin_cn _ (by omega) (by omega)
  have eS : ∀ y, SG (prA q) y = SG (MA q (cn (BG q (cn q 0)) 1)) y := fun y => by
    unfold SG sgc prA
    rw [c1]
    exact smN_cg _ (fun j _ => by rw [ct]; rfl)
  refine ⟨p1, p2, fun t ht h7 => ?_, fun t ht k hk => ?_, ?_⟩
  · have ht2 : t < cn (fin0 (MA q (cn (BG q (cn q 0)) 1))) 1 := ht
    rw [c1] at ht2
    exact k2.2.1 t ht2 h7
  · have ht2 : t < cn (fin0 (MA q (cn (BG q (cn q 0)) 1))) 1 := ht
    have hk2 : k < cn (fin0 (MA q (cn (BG q (cn q 0)) 1))) (100 + t) := hk
    rw [c1] at ht2
    rw [ct] at hk2
    exact k2.1 t ht2 k hk2
  · rw [eS, eS, k2.2.2.1]
    have h3 : cn (prA q) 3 = cn (MA q (cn (BG q (cn q 0)) 1)) 3 := fin_cn _ (by decide) (by decide)
    have h2 : cn (prA q) 2 = cn (MA q (cn (BG q (cn q 0)) 1)) 2 + cn (MA q (cn (BG q (cn q 0)) 1)) 0 := by
      show cn (fin0 (MA q (cn (BG q (cn q 0)) 1))) 2 = _
      unfold fin0
      rw [cn_cs, if_neg (by decide), cn_cs, if_pos rfl]
    have e2 : cn (MA q (cn (BG q (cn q 0)) 1)) 2 = cn q 2 := (n3.1 2 (by decide)).trans (g3 2 (by decide) (by decide) (by decide))
    have e0 : cn (MA q (cn (BG q (cn q 0)) 1)) 0 = cn q 0 := (n3.1 0 (by decide)).trans (g3 0 (by decide) (by decide) (by decide))
    have k4 := k2.2.2.2
    rw [h2, h3, e2, e0]
    omega
