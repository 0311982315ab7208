/-! the best assignment is one: places that are free, each once -/
def OkA (cm : Nat → Nat → Int) (N r nr : Nat) (us : Nat → Bool) (f : Nat → Int) : Prop := (∀ j, r ≤ j → j < nr → f j = -1 ∨ ∃ i : Nat, i < N ∧ f j = (i : Int) ∧ us i = false ∧ 0 ≤ cm j i) ∧ (∀ j j', r ≤ j → j < j' → j' < nr → 0 ≤ f j → f j ≠ f j')
theorem OkA.none {cm : Nat → Nat → Int} {N r nr : Nat} {us : Nat → Bool} {f : Nat → Int} (h : OkA cm N (r + 1) nr us f) : OkA cm N r nr us (fup f r (-1)) := by
  refine ⟨fun j h1 h2 => ?_, fun j j' h1 h2 h3 h4 => ?_⟩
  · unfold fup
    by_cases hj : j = r
    · rw [if_pos hj]; exact Or.inl rfl
    · rw [if_neg hj]; exact h.1 j (by omega) h2
  · unfold fup at h4 ⊢
    by_cases hj : j = r
    · rw [if_pos hj] at h4; omega
    · rw [if_neg hj] at h4 ⊢
      rw [if_neg (by omega)]
      exact h.2 j j' (by omega) h2 h3 h4
theorem OkA.some {cm : Nat → Nat → Int} {N r nr i : Nat} {us : Nat → Bool} {f : Nat → Int} (h : OkA cm N (r + 1) nr (bup us i) f) (hi : i < N) (hu : us i = false) (hc : 0 ≤ cm r i) : OkA cm N r nr us (fup f r i) := by
  have key : ∀ j, r + 1 ≤ j → j < nr → f j = -1 ∨ ∃ i' : Nat, i' < N ∧ f j = (i' : Int) ∧ us i' = false ∧ i' ≠ i ∧ 0 ≤ cm j i' := by
    intro j h1 h2
    rcases h.1 j h1 h2 with z | ⟨i', a, b, c, d⟩
    · exact Or.inl z
    · right
      unfold bup at c
      by_cases hii : i' = i
      · rw [if_pos hii] at c; cases c
      · rw [if_neg hii] at c
        exact ⟨i', a, b, c, hii, d⟩
  refine ⟨fun j h1 h2 => ?_, fun j j' h1 h2 h3 h4 => ?_⟩
  · unfold fup
    by_cases hj : j = r
    · rw [if_pos hj]; subst hj; exact Or.inr ⟨i, hi, rfl, hu, hc⟩
    · rw [if_neg hj]
      rcases key j (by omega) h2 with z | ⟨i', a, b, c, d, e⟩
      · exact Or.inl z
      · exact Or.inr ⟨i', a, b, c, e⟩
  · unfold fup at h4 ⊢
    by_cases hj : j = r
    · rw [if_pos hj, if_neg (by omega)]
      rcases key j' (by omega) h3 with z | ⟨i', a, b, c, d, e⟩
      · rw [z]; omega
      · rw [b]; omega
    · rw [if_neg hj] at h4 ⊢
      rw [if_neg (by omega)]
      exact h.2 j j' (by omega) h2 h3 h4
theorem opt_ok {cm : Nat → Nat → Int} {g : Int} {N nr : Nat} : ∀ (k : Nat) (us : Nat → Bool), k ≤ nr → OkA cm N (nr - k) nr us (opt cm g N nr k us).2
  | 0, us, _ => ⟨fun j h1 h2 => by omega, fun j j' h1 h2 h3 => by omega⟩
  | k + 1, us, hk => by
    have e : nr - (k + 1) + 1 = nr - k := by omega
    have hF : ∀ i, i ≤ N → ∀ o, optF cm (nr - (k + 1)) us (fun i => opt cm g N nr k (bup us i)) i = some o → OkA cm N (nr - (k + 1)) nr us o.2 := by
      intro i
      induction i with
      | zero => intro _ o h; cases h
      | succ i ih =>
        intro hi o h
        by_cases hc : 0 ≤ cm (nr - (k + 1)) i ∧ us i = false
        · rw [optF_some hc] at h
          cases h
          have hs : OkA cm N (nr - (k + 1)) nr us (fup (opt cm g N nr k (bup us i)).2 (nr - (k + 1)) i) := OkA.some (by rw [e]; exact opt_ok k (bup us i) (by omega)) (by omega) hc.2 hc.1
          cases ho : optF cm (nr - (k + 1)) us (fun i => opt cm g N nr k (bup us i)) i with
          | none => exact hs
          | some b =>
            show OkA cm N (nr - (k + 1)) nr us (if _ then _ else b).2
            split
            · exact hs
            · exact ih (by omega) b ho
        · rw [optF_skip hc] at h
          exact ih (by omega) o h
    have hn : OkA cm N (nr - (k + 1)) nr us (fup (opt cm g N nr k us).2 (nr - (k + 1)) (-1)) := OkA.none (by rw [e]; exact opt_ok k us (by omega))
    show OkA cm N (nr - (k + 1)) nr us (better (optF cm (nr - (k + 1)) us (fun i => opt cm g N nr k (bup us i)) N) _).2
    cases ho : optF cm (nr - (k + 1)) us (fun i => opt cm g N nr k (bup us i)) N with
    | none => exact hn
    | some b =>
      show OkA cm N (nr - (k + 1)) nr us (if _ then _ else b).2
      split
      · exact hn
      · exact hF N (Nat.le_refl _) b ho
/-! ## the steps of 'process' -/
/-- a report's place among the live tracks, or -1 -/
def tkr (q : AS) (r : Nat) : Int := (optA q).2 r
/-- the track of a place -/
def lti (q : AS) (i : Nat) : Nat := lvt (liveP q) (cn q 1) i
def lcn (q : AS) : Nat := cntP (liveP q) (cn q 1)
theorem tkr_ok (q : AS) {r : Nat} (hr : r < cn q 0) : tkr q r = -1 ∨ ∃ i : Nat, i < lcn q ∧ tkr q r = (i : Int) ∧ 0 ≤ ctk q r (lti q i) := by
  have h := opt_ok (cm := fun r i => ctk q r (lvt (liveP q) (cn q 1) i)) (g := gsq q) (N := cntP (liveP q) (cn q 1)) (nr := cn q 0) (cn q 0) noneUsed (Nat.le_refl _)
  rcases h.1 r (by omega) hr with z | ⟨i, a, b, c, d⟩
  · exact Or.inl z
  · exact Or.inr ⟨i, a, b, d⟩
theorem tkr_inj (q : AS) {r r' : Nat} (h : r < r') (hr : r' < cn q 0) (h0 : 0 ≤ tkr q r) : tkr q r ≠ tkr q r' := by
  have h2 := opt_ok (cm := fun r i => ctk q r (lvt (liveP q) (cn q 1) i)) (g := gsq q) (N := cntP (liveP q) (cn q 1)) (nr := cn q 0) (cn q 0) noneUsed (Nat.le_refl _)
  exact h2.2 r r' (by omega) h hr h0
/-- a sign behind a track's history -/
def ntA (q : AS) (t : Nat) (x : Int) : AS := (fun k => if k = 100 + t then cn q (100 + t) + 1 else cn q k, fun i j k => if i = 4 ∧ j = t ∧ k = cn q (100 + t) then x else zz q i j k)
def clampV (v : Int) : Int := let a := if v < 1600 then v else 1600; if -1600 < a then a else -1600
def posA (q : AS) (r t ax : Nat) : Int := ahd q t (zz q 2 r 0) ax + (rsd q r t ax * zz q 0 0 1).tdiv 16
def velA (q : AS) (r t ax : Nat) : Int := if 0 < zz q 2 r 0 - zz q 3 t 0 then clampV (zz q 3 t (3 + ax) + (rsd q r t ax * zz q 0 0 2).tdiv (16 * (zz q 2 r 0 - zz q 3 t 0))) else zz q 3 t (3 + ax)
def flwR (q : AS) (r t : Nat) : Nat → Int
  | 0 => zz q 2 r 0
  | 1 => posA q r t 0
  | 2 => posA q r t 1
  | 3 => velA q r t 0
  | 4 => velA q r t 1
  | 5 => zz q 3 t 5 + 1
  | 6 => 0
  | k => zz q 3 t k
/-- a track's row -/
def rwA (q : AS) (t : Nat) (w : Nat → Int) : AS := (q.1, fun i j k => if i = 3 ∧ j = t then w k else zz q i j k)
def flwA (q : AS) (r t : Nat) : AS := ntA (rwA q t (flwR q r t)) t 104
def FS (q : AS) : Nat → AS
  | 0 => q
  | r + 1 => if tkr q r < 0 then FS q r else flwA (FS q r) r (lti q (tkr q r).toNat)
def TK (q : AS) : Nat → Nat
  | 0 => 0
  | r + 1 => if tkr q r < 0 then TK q r else TK q r + 1
def hasR (q : AS) (i : Nat) : Bool := anyP (fun r => decide (tkr q r = (i : Int))) (cn q 0)
def mssA (q : AS) (t : Nat) : AS := let q1 := ntA (zs q 3 t 6 (zz q 3 t 6 + 1)) t 120; if iO (zz q 3 t 6) + 1 < iO (zz q 0 0 3) then q1 else ntA (zs q1 3 t 7 1) t 108
def MS (q : AS) : Nat → AS
  | 0 => FS q (cn q 0)
  | i + 1 => if hasR q i = true then MS q i else mssA (MS q i) (lti q i)
def bgnR (q : AS) (r : Nat) : Nat → Int
  | 0 => zz q 2 r 0
  | 1 => 16 * zz q 2 r 1
  | 2 => 16 * zz q 2 r 2
  | 5 => 1
  | _ => 0
def newA (q : AS) (r : Nat) : AS := ((fun k => if k = 1 then cn q 1 + 1 else if k = 100 + cn q 1 then 1 else cn q k), fun i j k => if i = 3 ∧ j = cn q 1 then bgnR q r k else if i = 4 ∧ j = cn q 1 ∧ k = 0 then 110 else zz q i j k)
def bgnA (q : AS) (r : Nat) : AS := if 6 ≤ lcn q ∨ 60 ≤ cn q 1 then cs q 3 (cn q 3 + 1) else newA q r
def BG (q : AS) : Nat → AS
  | 0 => MS q (lcn q)
  | r + 1 => if tkr q r < 0 then bgnA (BG q r) r else BG q r
def ab (a : Int) : Int := if 0 ≤ a then a else -a
def mxI (a b : Int) : Int := if a < b then b else a
def dfA (q : AS) (a b : Nat) (ax : Nat) : Int := ahd q a (mxI (zz q 3 a 0) (zz q 3 b 0)) ax - ahd q b (mxI (zz q 3 a 0) (zz q 3 b 0)) ax
def nrA (q : AS) (a b : Nat) : Bool := decide (dfA q a b 0 * dfA q a b 0 + dfA q a b 1 * dfA q a b 1 ≤ 256 * (zz q 0 0 4 * zz q 0 0 4) ∧ ab (zz q 3 a 3 - zz q 3 b 3) + ab (zz q 3 a 4 - zz q 3 b 4) ≤ 16)
def absA (q : AS) (a b : Nat) : AS := ntA (zs q 3 a 5 (zz q 3 a 5 + zz q 3 b 5)) a 103
def intoA (q : AS) (a b : Nat) : AS := ntA (zs (zs q 3 b 7 2) 3 b 8 (a : Int)) b 109
def mrgA (q : AS) (a b : Nat) : AS := intoA (absA q a b) a b
def MI (a : Nat) (q : AS) : Nat → AS
  | 0 => q
  | b + 1 => if a < b ∧ liveP (MI a q b) b = true ∧ nrA (MI a q b) a b = true then mrgA (MI a q b) a b else MI a q b
def MA (q : AS) : Nat → AS
  | 0 => BG q (cn q 0)
  | a + 1 => if liveP (MA q a) a = true then MI a (MA q a) (cn (MA q a) 1) else MA q a
def fin0 (q : AS) : AS := cs (cs q 2 (cn q 2 + cn q 0)) 0 0
def prA (q : AS) : AS := fin0 (MA q (cn (BG q (cn q 0)) 1))
/-! ## what a change of one track keeps -/
def QT (q q' : AS) (t : Nat) : Prop := (∀ k, k ≠ 100 + t → cn q' k = cn q k) ∧ (∀ i j k, ¬ ((i = 3 ∨ i = 4) ∧ j = t) → zz q' i j k = zz q i j k)
theorem QT.rf {q : AS} {t : Nat} : QT q q t := ⟨fun _ _ => rfl, fun _ _ _ _ => rfl⟩
theorem QT.tr {q q' q'' : AS} {t : Nat} (h : QT q q' t) (g : QT q' q'' t) : QT q q'' t := ⟨fun k hk => (g.1 k hk).trans (h.1 k hk), fun i j k hk => (g.2 i j k hk).trans (h.2 i j k hk)⟩
theorem QT.nt {q : AS} {t : Nat} {x : Int} : QT q (ntA q t x) t := ⟨fun k hk => if_neg hk, fun i j k hk => if_neg (fun z => hk ⟨Or.inr z.1, z.2.1⟩)⟩
theorem QT.zs {q : AS} {t k : Nat} {v : Int} : QT q (zs q 3 t k v) t := ⟨fun _ _ => rfl, fun i j k' hk => if_neg (fun z => hk ⟨Or.inl z.1, z.2.1⟩)⟩
theorem QT.rw {q : AS} {t : Nat} {w : Nat → Int} : QT q (rwA q t w) t := ⟨fun _ _ => rfl, fun i j k' hk => if_neg (fun z => hk ⟨Or.inl z.1, z.2⟩)⟩
theorem QT.flw {q : AS} {r t : Nat} : QT q (flwA q r t) t := QT.tr QT.rw QT.nt
theorem QT.mss {q : AS} {t : Nat} : QT q (mssA q t) t := by
  unfold mssA
  dsimp only
  split
  · exact QT.tr QT.zs QT.nt
  · exact QT.tr (QT.tr (QT.tr QT.zs QT.nt) QT.zs) QT.nt
theorem QT.abs {q : AS} {a b : Nat} : QT q (absA q a b) a := QT.tr QT.zs QT.nt
theorem QT.into {q : AS} {a b : Nat} : QT q (intoA q a b) b := QT.tr (QT.tr QT.zs QT.zs) QT.nt
/-- what BI says of one track -/
def BT (q : AS) (t : Nat) : Prop := (bd (zz q 3 t 0) (-20000) 30000 ∧ bd (zz q 3 t 1) (-24000) 24000 ∧ bd (zz q 3 t 2) (-24000) 24000 ∧ bd (zz q 3 t 3) (-1600) 1600 ∧ bd (zz q 3 t 4) (-1600) 1600) ∧ (zz q 3 t 7 = 0 ∨ zz q 3 t 7 = 1 ∨ zz q 3 t 7 = 2) ∧ (cn q (100 + t) ≤ 500 ∧ 1 ≤ cn q (100 + t))
theorem BI.tk {q : AS} (h : BI q) {t : Nat} (ht : t < cn q 1) : BT q t := ⟨h.bt t ht, h.bs t ht, h.bh t ht⟩
theorem BI.trk {q q' : AS} {t : Nat} (h : BI q) (hq : QT q q' t) (ht : BT q' t) (hl : cntP (liveP q') (cn q' 1) ≤ 6) : BI q' := by
  have e1 : ∀ k, k < 100 → cn q' k = cn q k := fun k hk => hq.1 k (by omega)
  have e2 : ∀ i, i < 3 → ∀ j k, zz q' i j k = zz q i j k := fun i hi j k => hq.2 i j k (by omega)
  have e0 := e1 0 (by decide)
  have e11 := e1 1 (by decide)
  refine ⟨by rw [e0]; exact h.b0, by rw [e11]; exact h.b1, fun i hi => by rw [e1 _ (by omega)]; exact h.bc i hi, fun i hi h1 => ?_, fun i hi h1 => ?_, fun r hr => ?_, fun t' h' => ?_, fun t' h' => ?_, by rw [e2 0 (by decide)]; exact h.g0, by rw [e2 0 (by decide)]; exact h.g1, by rw [e2 0 (by decide)]; exact h.g2, by rw [e2 0 (by decide)]; exact h.g3, by rw [e2 0 (by decide)]; exact h.g4, hl, fun t' h' => ?_⟩
  · rw [e1 _ (by omega)] at h1
    rw [e2 1 (by decide), e2 1 (by decide)]
    exact h.bl i hi h1
  · rw [e1 _ (by omega)] at h1
    rw [e2 1 (by decide), e2 1 (by decide), e2 1 (by decide), e2 1 (by decide)]
    exact h.be i hi h1
  · rw [e0] at hr
    rw [e2 2 (by decide), e2 2 (by decide), e2 2 (by decide)]
    exact h.br r hr
  · by_cases he : t' = t
    · rw [he]; exact ht.1
    · rw [e11] at h'
      have e3 : ∀ k, zz q' 3 t' k = zz q 3 t' k := fun k => hq.2 3 t' k (fun z => he z.2)
      rw [e3, e3, e3, e3, e3]
      exact h.bt t' h'
  · by_cases he : t' = t
    · rw [he]; exact ht.2.1
    · rw [e11] at h'
      rw [hq.2 3 t' 7 (fun z => he z.2)]
      exact h.bs t' h'
  · by_cases he : t' = t
    · rw [he]; exact ht.2.2
    · rw [e11] at h'
      rw [hq.1 _ (by omega)]
      exact h.bh t' h'
theorem live_QT {q q' : AS} {t t' : Nat} (hq : QT q q' t) (h : t' ≠ t) : liveP q' t' = liveP q t' := by
  unfold liveP
  rw [hq.2 3 t' 7 (fun z => h z.2)]
theorem lcn_same {q q' : AS} {t : Nat} (hq : QT q q' t) (h7 : zz q' 3 t 7 = zz q 3 t 7) : liveP q' = liveP q ∧ lcn q' = lcn q := by
  have e : liveP q' = liveP q := by
    funext t'
    by_cases h : t' = t
    · subst h; unfold liveP; rw [h7]
    · exact live_QT hq h
  exact ⟨e, by unfold lcn; rw [e, hq.1 1 (by omega)]⟩
theorem cntP_drop {p p' : Nat → Bool} {t : Nat} (h : ∀ j, j ≠ t → p' j = p j) (h1 : p t = true) (h2 : p' t = false) : ∀ n, t < n → cntP p' n + 1 = cntP p n
  | n + 1, hn => by
    by_cases he : n = t
    · subst he
      rw [cntP_t h1, cntP_f h2, cntP_cong (fun j hj => h j (by omega))]
    · have ih := cntP_drop h h1 h2 n (by omega)
      show cntP p' n + _ + 1 = cntP p n + _
      rw [h n he]
      omega
theorem lcn_drop {q q' : AS} {t : Nat} (hq : QT q q' t) (ht : t < cn q 1) (h1 : liveP q t = true) (h2 : liveP q' t = false) : lcn q' + 1 = lcn q := by
  unfold lcn
  rw [hq.1 1 (by omega)]
  exact cntP_drop (fun j hj => live_QT hq hj) h1 h2 _ ht
/-! ## following -/
theorem tdiv_bd {a b M : Int} (h : bd a (-M) M) (hb : b ≠ 0) : bd (a.tdiv b) (-M) M := tdiv_abs h.1 h.2 hb
theorem abs_of_sq {a B : Int} (hB : 0 ≤ B) (h : a * a ≤ B * B) : bd a (-B) B := by
  unfold bd
  constructor
  · rcases Int.lt_or_le a (-B) with z | z
    · have h1 : (B + 1) * (B + 1) ≤ -a * -a := Int.mul_le_mul (by omega) (by omega) (by omega) (by omega)
      rw [Int.neg_mul_neg, Int.mul_add, Int.add_mul] at h1
      omega
    · exact z
  · rcases Int.lt_or_le B a with z | z
    · have h1 : (B + 1) * (B + 1) ≤ a * a := Int.mul_le_mul (by omega) (by omega) (by omega) (by omega)
      rw [Int.mul_add, Int.add_mul] at h1
      omega
    · exact z
theorem ctk_rsd {q : AS} (hB : BI q) {r t : Nat} (h : 0 ≤ ctk q r t) : zz q 3 t 0 ≤ zz q 2 r 0 ∧ bd (rsd q r t 0) (-8000) 8000 ∧ bd (rsd q r t 1) (-8000) 8000 := by
  unfold ctk at h
  by_cases hc : zz q 2 r 0 < zz q 3 t 0 ∨ gsq q < dst q r t
  · rw [if_pos hc] at h; omega
  · have h1 : ¬ zz q 2 r 0 < zz q 3 t 0 := fun z => hc (Or.inl z)
    have h2 : ¬ gsq q < dst q r t := fun z => hc (Or.inr z)
    have h3 := gsq_bd hB
    have n0 := sq_nn (rsd q r t 0)
    have n1 := sq_nn (rsd q r t 1)
    unfold dst at h2
    refine ⟨by omega, abs_of_sq (by decide) (by unfold bd at h3; omega), abs_of_sq (by decide) (by unfold bd at h3; omega)⟩
theorem gain_bd {z g : Int} (hz : bd z (-8000) 8000) (hg : bd g 0 16) : bd (z * g) (-128000) 128000 := mul_bd (A := 8000) (B := 16) hz (by unfold bd at *; omega)
/-- the position after following stays near the report -/
theorem tdiv16 {z g : Int} (hz : bd z (-8000) 8000) (hg : bd g 0 16) : bd (z - (z * g).tdiv 16) (-8000) 8000 := by
  rcases Int.le_total 0 z with h | h
  · have h1 : 0 ≤ z * g := Int.mul_nonneg h hg.1
    have h2 : z * g ≤ z * 16 := Int.mul_le_mul_of_nonneg_left hg.2 h
    rw [Int.tdiv_eq_ediv_of_nonneg h1]
    unfold bd at *
    omega
  · have e : z * g = -(-z * g) := by rw [Int.neg_mul, Int.neg_neg]
    have h1 : 0 ≤ -z * g := Int.mul_nonneg (by omega) hg.1
    have h2 : -z * g ≤ -z * 16 := Int.mul_le_mul_of_nonneg_left hg.2 (by omega)
    rw [e, Int.neg_tdiv, Int.tdiv_eq_ediv_of_nonneg h1]
    unfold bd at *
    omega
theorem posA_eq (q : AS) (r t ax : Nat) : posA q r t ax = 16 * zz q 2 r (1 + ax) - (rsd q r t ax - (rsd q r t ax * zz q 0 0 1).tdiv 16) := by
  unfold posA rsd
  omega
theorem posA_bd {q : AS} (hB : BI q) {r t ax : Nat} (hr : r < cn q 0) (hax : ax < 2) (h : bd (rsd q r t ax) (-8000) 8000) : bd (posA q r t ax) (-24000) 24000 := by
  have h1 := tdiv16 h (by have := hB.g1; unfold bd at *; omega : bd (zz q 0 0 1) 0 16)
  obtain ⟨-, h2, h3⟩ := hB.br r hr
  have h4 : bd (zz q 2 r (1 + ax)) (-999) 999 := by
    rcases (show ax = 0 ∨ ax = 1 by omega) with rfl | rfl
    · exact h2
    · exact h3
  rw [posA_eq]
  unfold bd at *
  omega
theorem clampV_bd (v : Int) : bd (clampV v) (-1600) 1600 := by
  unfold clampV bd
  dsimp only
  split <;> split <;> omega
theorem velA_bd {q : AS} (hB : BI q) {r t ax : Nat} (ht : t < cn q 1) (hax : ax < 2) : bd (velA q r t ax) (-1600) 1600 := by
  unfold velA
  split
  · exact clampV_bd _
  · obtain ⟨-, -, -, h3, h4⟩ := hB.bt t ht
    rcases (show ax = 0 ∨ ax = 1 by omega) with rfl | rfl
    · exact h3
    · exact h4
theorem zz_nt {q : AS} {t : Nat} {x : Int} (i j k : Nat) : zz (ntA q t x) i j k = if i = 4 ∧ j = t ∧ k = cn q (100 + t) then x else zz q i j k := rfl
theorem cn_nt {q : AS} {t : Nat} {x : Int} (k : Nat) : cn (ntA q t x) k = if k = 100 + t then cn q (100 + t) + 1 else cn q k := rfl
theorem zz_nt3 {q : AS} {t : Nat} {x : Int} (j k : Nat) : zz (ntA q t x) 3 j k = zz q 3 j k := by rw [zz_nt, if_neg (by omega)]
theorem cn_nt1 {q : AS} {t : Nat} {x : Int} : cn (ntA q t x) (100 + t) = cn q (100 + t) + 1 := by rw [cn_nt, if_pos rfl]
theorem zz_rw {q : AS} {t : Nat} {w : Nat → Int} (k : Nat) : zz (rwA q t w) 3 t k = w k := by show (if 3 = 3 ∧ t = t then _ else _) = _; rw [if_pos ⟨rfl, rfl⟩]
theorem cn_rw {q : AS} {t : Nat} {w : Nat → Int} (k : Nat) : cn (rwA q t w) k = cn q k := rfl
theorem flw_row (q : AS) (r t k : Nat) : zz (flwA q r t) 3 t k = flwR q r t k := by unfold flwA; rw [zz_nt3, zz_rw]
theorem flw_cn (q : AS) (r t : Nat) : cn (flwA q r t) (100 + t) = cn q (100 + t) + 1 := by unfold flwA; rw [cn_nt1, cn_rw]
theorem flw_BI {q : AS} (hB : BI q) {r t : Nat} (hr : r < cn q 0) (ht : t < cn q 1) (hc : 0 ≤ ctk q r t) (hh : cn q (100 + t) + 1 ≤ 500) : BI (flwA q r t) := by
  obtain ⟨h1, h2, h3⟩ := ctk_rsd hB hc
  refine hB.trk QT.flw ⟨?_, ?_, ?_⟩ ?_
  · rw [flw_row, flw_row, flw_row, flw_row, flw_row]
    exact ⟨(hB.br r hr).1, posA_bd hB hr (by decide) h2, posA_bd hB hr (by decide) h3, velA_bd hB ht (by decide), velA_bd hB ht (by decide)⟩
  · rw [flw_row]; exact hB.bs t ht
  · rw [flw_cn]; omega
  · show lcn (flwA q r t) ≤ 6
    rw [(lcn_same QT.flw (by rw [flw_row]; rfl)).2]
    exact hB.bv
