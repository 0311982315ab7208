/-! the search over all places, where only some may be taken, is the search over those -/
def mpF (p : Nat → Bool) (N : Nat) (f : Nat → Int) : Nat → Int := fun j => if f j < 0 then -1 else (lvt p N (f j).toNat : Nat)
def mpO (p : Nat → Bool) (N : Nat) (o : OC) : OC := (o.1, mpF p N o.2)
theorem mp_better {p : Nat → Bool} {N : Nat} (o : Option OC) (c : OC) : mpO p N (better o c) = better (o.map (mpO p N)) (mpO p N c) := by
  cases o with
  | none => rfl
  | some b =>
    show mpO p N (if c.1 < b.1 then c else b) = if c.1 < b.1 then mpO p N c else mpO p N b
    split <;> rfl
theorem mp_some {p : Nat → Bool} {N r i t : Nat} {c : Int} {f : Nat → Int} (h : lvt p N i = t) : mpO p N (c, fup f r (i : Int)) = (c, fup (mpF p N f) r (t : Int)) := by
  unfold mpO
  congr 1
  funext j
  unfold mpF fup
  dsimp only
  by_cases e : j = r
  · simp only [if_pos e]
    rw [if_neg (by omega), ← h]
    rfl
  · simp only [if_neg e]
theorem mp_none {p : Nat → Bool} {N r : Nat} {c : Int} {f : Nat → Int} : mpO p N (c, fup f r (-1)) = (c, fup (mpF p N f) r (-1)) := by
  unfold mpO
  congr 1
  funext j
  unfold mpF fup
  dsimp only
  by_cases e : j = r
  · simp only [if_pos e]
    rw [if_pos (by decide)]
  · simp only [if_neg e]
theorem optF_map {p : Nat → Bool} {N r : Nat} {cm cm' : Nat → Nat → Int} {us us' : Nat → Bool} {sub sub' : Nat → OC} (h0 : ∀ t, t < N → p t = false → cm' r t < 0) (h1 : ∀ t, t < N → p t = true → cm' r t = cm r (cntP p t)) (hu : ∀ t, t < N → p t = true → us' t = us (cntP p t)) (hs : ∀ t, t < N → p t = true → sub' t = mpO p N (sub (cntP p t))) :
    ∀ n, n ≤ N → optF cm' r us' sub' n = (optF cm r us sub (cntP p n)).map (mpO p N)
  | 0, _ => rfl
  | n + 1, hn => by
    have ih := optF_map h0 h1 hu hs n (by omega)
    cases hp : p n with
    | false =>
      rw [optF_skip (fun z => by have := h0 n (by omega) hp; omega), cntP_f hp]
      exact ih
    | true =>
      rw [cntP_t hp]
      have hl := lvt_of (p := p) (show n < N by omega) hp
      by_cases hc : 0 ≤ cm r (cntP p n) ∧ us (cntP p n) = false
      · rw [optF_some (by rw [h1 n (by omega) hp, hu n (by omega) hp]; exact hc), optF_some hc, ih, h1 n (by omega) hp, hs n (by omega) hp]
        show some _ = some _
        rw [mp_better, mp_some hl]
        rfl
      · rw [optF_skip (by rw [h1 n (by omega) hp, hu n (by omega) hp]; exact hc), optF_skip hc]
        exact ih
theorem cntP_inj {p : Nat → Bool} {N t t' : Nat} (ht : t < N) (ht' : t' < N) (h : p t = true) (h' : p t' = true) (e : cntP p t' = cntP p t) : t' = t := by
  have a := lvt_of (p := p) ht h
  have b := lvt_of (p := p) ht' h'
  rw [e] at b
  omega
theorem opt_map {p : Nat → Bool} {N nr : Nat} {cm cm' : Nat → Nat → Int} {g : Int} (h0 : ∀ r, r < nr → ∀ t, t < N → p t = false → cm' r t < 0) (h1 : ∀ r, r < nr → ∀ t, t < N → p t = true → cm' r t = cm r (cntP p t)) :
    ∀ (k : Nat), k ≤ nr → ∀ (us us' : Nat → Bool), (∀ t, t < N → p t = true → us' t = us (cntP p t)) → opt cm' g N nr k us' = mpO p N (opt cm g (cntP p N) nr k us)
  | 0, _, us, us', _ => by
    show ((0 : Int), fun _ => (-1 : Int)) = mpO p N (0, fun _ => -1)
    unfold mpO mpF
    rfl
  | k + 1, hk, us, us', hu => by
    have ih := opt_map (g := g) h0 h1 k (by omega)
    show better (optF cm' (nr - (k + 1)) us' (fun i => opt cm' g N nr k (bup us' i)) N) (g + (opt cm' g N nr k us').1, fup (opt cm' g N nr k us').2 (nr - (k + 1)) (-1)) = mpO p N (better (optF cm (nr - (k + 1)) us (fun i => opt cm g (cntP p N) nr k (bup us i)) (cntP p N)) (g + (opt cm g (cntP p N) nr k us).1, fup (opt cm g (cntP p N) nr k us).2 (nr - (k + 1)) (-1)))
    rw [mp_better, mp_none, optF_map (p := p) (N := N) (us := us) (sub := fun i => opt cm g (cntP p N) nr k (bup us i)) (cm := cm) (h0 _ (by omega)) (h1 _ (by omega)) hu (fun t ht hp => ih (bup us (cntP p t)) (bup us' t) (fun t' ht' hp' => by
      unfold bup
      by_cases e : t' = t
      · rw [if_pos e, if_pos (by rw [e])]
      · rw [if_neg e, if_neg (fun z => e (cntP_inj ht ht' hp hp' z))]
        exact hu t' ht' hp')) N (Nat.le_refl _), ih us us' hu]
    rfl
/-- the model's table of costs -/
def cmM (q : AS) (r t : Nat) : Int := if liveP q t = true then ctk q r t else -1
def optM (q : AS) : OC := opt (cmM q) (gsq q) (cn q 1) (cn q 0) (cn q 0) noneUsed
theorem optM_eq (q : AS) : (optM q).1 = (optA q).1 ∧ ∀ r, r < cn q 0 → (optM q).2 r = gtA q r := by
  have h := opt_map (p := liveP q) (N := cn q 1) (nr := cn q 0) (cm := fun r i => ctk q r (lvt (liveP q) (cn q 1) i)) (cm' := cmM q) (g := gsq q) (fun r hr t ht hp => by unfold cmM; rw [if_neg (by rw [hp]; decide)]; decide) (fun r hr t ht hp => by
    unfold cmM
    rw [if_pos hp]
    show ctk q r t = ctk q r (lvt (liveP q) (cn q 1) (cntP (liveP q) t))
    rw [lvt_of ht hp]) (cn q 0) (Nat.le_refl _) noneUsed noneUsed (fun _ _ _ => rfl)
  have h2 : optM q = mpO (liveP q) (cn q 1) (optA q) := h
  rw [h2]
  exact ⟨rfl, fun r hr => rfl⟩
