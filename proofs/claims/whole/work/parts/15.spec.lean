/-! the abstract state: counts, and integers; how the class's heap tells it -/
abbrev AS : Type := (Nat → Nat) × (Nat → Nat → Nat → Int)
/-- counts: 0 reports of the batch, 1 tracks, 2 processed, 3 dropped, 10 + i pairs of clock i, 100 + t signs of track t -/
def cn (q : AS) (k : Nat) : Nat := q.1 k
/-- integers: 0 0 k settings; 1 i k clock i (earlier, earlier true, later, later true); 2 r k report r (time, x, y); 3 t k track t (time, x, y, vx, vy, hits, misses, state, into); 4 t j its signs -/
def zz (q : AS) (i j k : Nat) : Int := q.2 i j k
def cs (q : AS) (k v : Nat) : AS := (fun k' => if k' = k then v else q.1 k', q.2)
def zs (q : AS) (i j k : Nat) (v : Int) : AS := (q.1, fun i' j' k' => if i' = i ∧ j' = j ∧ k' = k then v else q.2 i' j' k')
theorem cn_zs (q : AS) (i j k : Nat) (v : Int) (a : Nat) : cn (zs q i j k v) a = cn q a := rfl
theorem zz_cs (q : AS) (k v i j a : Nat) : zz (cs q k v) i j a = zz q i j a := rfl
theorem cn_cs (q : AS) (k v a : Nat) : cn (cs q k v) a = if a = k then v else cn q a := rfl
theorem zz_zs (q : AS) (i j k : Nat) (v : Int) (a b c : Nat) : zz (zs q i j k v) a b c = if a = i ∧ b = j ∧ c = k then v else zz q a b c := rfl
def liveP (q : AS) : Nat → Bool := fun t => decide (zz q 3 t 7 = 0)
abbrev AD : Type := Nat → Nat → Nat
def XA (S : HS) (ad : AD) (n : Nat) : Prop :=
  (hK S (ad 0 0) = 5) ∧ (hK S (ad 1 0) = 13) ∧ (∀ i, i < 4 → hK S (ad 2 i) = 1) ∧ (hK S (ad 3 0) = 14) ∧ (∀ i, i < 4 → hK S (ad 4 i) = 3) ∧ (hK S (ad 5 0) = 15) ∧ (∀ i, i < n → hK S (ad 6 i) = 4) ∧ (∀ i, i < n → hK S (ad 7 i) = 11) ∧ (hK S (ad 8 0) = 2) ∧ (hK S (ad 9 0) = 15) ∧ (hK S (ad 10 0) = 16) ∧ (∀ i, i < 4 → hK S (ad 11 i) = 12) ∧ (hK S (ad 12 0) = 10) ∧ (hK S (ad 13 0) = 10) ∧ (hR S 28 (ad 0 0) = some (ad 1 0)) ∧ (hR S 29 (ad 0 0) = some (ad 3 0)) ∧ (hR S 31 (ad 0 0) = some (ad 5 0)) ∧ (hR S 33 (ad 0 0) = some (ad 8 0)) ∧ (hR S 7 (ad 8 0) = some (ad 9 0)) ∧ (hR S 8 (ad 8 0) = some (ad 10 0)) ∧ (hR S 10 (ad 8 0) = some (ad 12 0)) ∧ (hR S 11 (ad 8 0) = some (ad 13 0)) ∧ (∀ i, i < n → hR S 26 (ad 6 i) = some (ad 7 i)) ∧ (hN S (ad 1 0) = 4) ∧ (hN S (ad 3 0) = 4) ∧ (hN S (ad 5 0) = 60) ∧ (hN S (ad 9 0) = 6) ∧ (hN S (ad 10 0) = 4) ∧ (∀ i, i < 4 → hN S (ad 11 i) = 6) ∧ (hN S (ad 12 0) = 4) ∧ (hN S (ad 13 0) = 4) ∧ (∀ i, i < n → hN S (ad 7 i) = 512) ∧ (∀ i, i < 4 → aR S (ad 1 0) i = some (ad 2 i)) ∧ (∀ i, i < 4 → aR S (ad 3 0) i = some (ad 4 i)) ∧ (∀ i, i < n → aR S (ad 5 0) i = some (ad 6 i)) ∧ (∀ i, i < 4 → aR S (ad 10 0) i = some (ad 11 i)) ∧ (∀ i, i < 4 → ∀ j, j < 4 → ad 2 i = ad 2 j → i = j) ∧ (∀ i, i < 4 → ∀ j, j < 4 → ad 4 i = ad 4 j → i = j) ∧ (∀ i, i < n → ∀ j, j < n → ad 6 i = ad 6 j → i = j) ∧ (∀ i, i < n → ∀ j, j < n → ad 7 i = ad 7 j → i = j) ∧ (∀ i, i < 4 → ∀ j, j < 4 → ad 11 i = ad 11 j → i = j) ∧ (ad 5 0 ≠ ad 9 0) ∧ (ad 12 0 ≠ ad 13 0) ∧ (n ≤ 60) ∧ (∀ i, n ≤ i → i < 60 → aR S (ad 5 0) i = none)
theorem XA.k0 {S : HS} {ad : AD} {n : Nat} (h : XA S ad n) : hK S (ad 0 0) = 5 := h.1
theorem XA.k1 {S : HS} {ad : AD} {n : Nat} (h : XA S ad n) : hK S (ad 1 0) = 13 := h.2.1
theorem XA.k2 {S : HS} {ad : AD} {n : Nat} (h : XA S ad n) : ∀ i, i < 4 → hK S (ad 2 i) = 1 := h.2.2.1
theorem XA.k3 {S : HS} {ad : AD} {n : Nat} (h : XA S ad n) : hK S (ad 3 0) = 14 := h.2.2.2.1
theorem XA.k4 {S : HS} {ad : AD} {n : Nat} (h : XA S ad n) : ∀ i, i < 4 → hK S (ad 4 i) = 3 := h.2.2.2.2.1
theorem XA.k5 {S : HS} {ad : AD} {n : Nat} (h : XA S ad n) : hK S (ad 5 0) = 15 := h.2.2.2.2.2.1
theorem XA.k6 {S : HS} {ad : AD} {n : Nat} (h : XA S ad n) : ∀ i, i < n → hK S (ad 6 i) = 4 := h.2.2.2.2.2.2.1
theorem XA.k7 {S : HS} {ad : AD} {n : Nat} (h : XA S ad n) : ∀ i, i < n → hK S (ad 7 i) = 11 := h.2.2.2.2.2.2.2.1
theorem XA.k8 {S : HS} {ad : AD} {n : Nat} (h : XA S ad n) : hK S (ad 8 0) = 2 := h.2.2.2.2.2.2.2.2.1
theorem XA.k9 {S : HS} {ad : AD} {n : Nat} (h : XA S ad n) : hK S (ad 9 0) = 15 := h.2.2.2.2.2.2.2.2.2.1
theorem XA.k10 {S : HS} {ad : AD} {n : Nat} (h : XA S ad n) : hK S (ad 10 0) = 16 := h.2.2.2.2.2.2.2.2.2.2.1
theorem XA.k11 {S : HS} {ad : AD} {n : Nat} (h : XA S ad n) : ∀ i, i < 4 → hK S (ad 11 i) = 12 := h.2.2.2.2.2.2.2.2.2.2.2.1
theorem XA.k12 {S : HS} {ad : AD} {n : Nat} (h : XA S ad n) : hK S (ad 12 0) = 10 := h.2.2.2.2.2.2.2.2.2.2.2.2.1
theorem XA.k13 {S : HS} {ad : AD} {n : Nat} (h : XA S ad n) : hK S (ad 13 0) = 10 := h.2.2.2.2.2.2.2.2.2.2.2.2.2.1
theorem XA.r28 {S : HS} {ad : AD} {n : Nat} (h : XA S ad n) : hR S 28 (ad 0 0) = some (ad 1 0) := h.2.2.2.2.2.2.2.2.2.2.2.2.2.2.1
theorem XA.r29 {S : HS} {ad : AD} {n : Nat} (h : XA S ad n) : hR S 29 (ad 0 0) = some (ad 3 0) := h.2.2.2.2.2.2.2.2.2.2.2.2.2.2.2.1
theorem XA.r31 {S : HS} {ad : AD} {n : Nat} (h : XA S ad n) : hR S 31 (ad 0 0) = some (ad 5 0) := h.2.2.2.2.2.2.2.2.2.2.2.2.2.2.2.2.1
theorem XA.r33 {S : HS} {ad : AD} {n : Nat} (h : XA S ad n) : hR S 33 (ad 0 0) = some (ad 8 0) := h.2.2.2.2.2.2.2.2.2.2.2.2.2.2.2.2.2.1
theorem XA.r7 {S : HS} {ad : AD} {n : Nat} (h : XA S ad n) : hR S 7 (ad 8 0) = some (ad 9 0) := h.2.2.2.2.2.2.2.2.2.2.2.2.2.2.2.2.2.2.1
theorem XA.r8 {S : HS} {ad : AD} {n : Nat} (h : XA S ad n) : hR S 8 (ad 8 0) = some (ad 10 0) := h.2.2.2.2.2.2.2.2.2.2.2.2.2.2.2.2.2.2.2.1
theorem XA.r10 {S : HS} {ad : AD} {n : Nat} (h : XA S ad n) : hR S 10 (ad 8 0) = some (ad 12 0) := h.2.2.2.2.2.2.2.2.2.2.2.2.2.2.2.2.2.2.2.2.1
theorem XA.r11 {S : HS} {ad : AD} {n : Nat} (h : XA S ad n) : hR S 11 (ad 8 0) = some (ad 13 0) := h.2.2.2.2.2.2.2.2.2.2.2.2.2.2.2.2.2.2.2.2.2.1
theorem XA.r26 {S : HS} {ad : AD} {n : Nat} (h : XA S ad n) : ∀ i, i < n → hR S 26 (ad 6 i) = some (ad 7 i) := h.2.2.2.2.2.2.2.2.2.2.2.2.2.2.2.2.2.2.2.2.2.2.1
theorem XA.n1 {S : HS} {ad : AD} {n : Nat} (h : XA S ad n) : hN S (ad 1 0) = 4 := h.2.2.2.2.2.2.2.2.2.2.2.2.2.2.2.2.2.2.2.2.2.2.2.1
theorem XA.n3 {S : HS} {ad : AD} {n : Nat} (h : XA S ad n) : hN S (ad 3 0) = 4 := h.2.2.2.2.2.2.2.2.2.2.2.2.2.2.2.2.2.2.2.2.2.2.2.2.1
theorem XA.n5 {S : HS} {ad : AD} {n : Nat} (h : XA S ad n) : hN S (ad 5 0) = 60 := h.2.2.2.2.2.2.2.2.2.2.2.2.2.2.2.2.2.2.2.2.2.2.2.2.2.1
theorem XA.n9 {S : HS} {ad : AD} {n : Nat} (h : XA S ad n) : hN S (ad 9 0) = 6 := h.2.2.2.2.2.2.2.2.2.2.2.2.2.2.2.2.2.2.2.2.2.2.2.2.2.2.1
theorem XA.n10 {S : HS} {ad : AD} {n : Nat} (h : XA S ad n) : hN S (ad 10 0) = 4 := h.2.2.2.2.2.2.2.2.2.2.2.2.2.2.2.2.2.2.2.2.2.2.2.2.2.2.2.1
theorem XA.n11 {S : HS} {ad : AD} {n : Nat} (h : XA S ad n) : ∀ i, i < 4 → hN S (ad 11 i) = 6 := h.2.2.2.2.2.2.2.2.2.2.2.2.2.2.2.2.2.2.2.2.2.2.2.2.2.2.2.2.1
theorem XA.n12 {S : HS} {ad : AD} {n : Nat} (h : XA S ad n) : hN S (ad 12 0) = 4 := h.2.2.2.2.2.2.2.2.2.2.2.2.2.2.2.2.2.2.2.2.2.2.2.2.2.2.2.2.2.1
theorem XA.n13 {S : HS} {ad : AD} {n : Nat} (h : XA S ad n) : hN S (ad 13 0) = 4 := h.2.2.2.2.2.2.2.2.2.2.2.2.2.2.2.2.2.2.2.2.2.2.2.2.2.2.2.2.2.2.1
theorem XA.n7 {S : HS} {ad : AD} {n : Nat} (h : XA S ad n) : ∀ i, i < n → hN S (ad 7 i) = 512 := h.2.2.2.2.2.2.2.2.2.2.2.2.2.2.2.2.2.2.2.2.2.2.2.2.2.2.2.2.2.2.2.1
theorem XA.a1 {S : HS} {ad : AD} {n : Nat} (h : XA S ad n) : ∀ i, i < 4 → aR S (ad 1 0) i = some (ad 2 i) := h.2.2.2.2.2.2.2.2.2.2.2.2.2.2.2.2.2.2.2.2.2.2.2.2.2.2.2.2.2.2.2.2.1
theorem XA.a3 {S : HS} {ad : AD} {n : Nat} (h : XA S ad n) : ∀ i, i < 4 → aR S (ad 3 0) i = some (ad 4 i) := h.2.2.2.2.2.2.2.2.2.2.2.2.2.2.2.2.2.2.2.2.2.2.2.2.2.2.2.2.2.2.2.2.2.1
theorem XA.a5 {S : HS} {ad : AD} {n : Nat} (h : XA S ad n) : ∀ i, i < n → aR S (ad 5 0) i = some (ad 6 i) := h.2.2.2.2.2.2.2.2.2.2.2.2.2.2.2.2.2.2.2.2.2.2.2.2.2.2.2.2.2.2.2.2.2.2.1
theorem XA.a10 {S : HS} {ad : AD} {n : Nat} (h : XA S ad n) : ∀ i, i < 4 → aR S (ad 10 0) i = some (ad 11 i) := h.2.2.2.2.2.2.2.2.2.2.2.2.2.2.2.2.2.2.2.2.2.2.2.2.2.2.2.2.2.2.2.2.2.2.2.1
theorem XA.j2 {S : HS} {ad : AD} {n : Nat} (h : XA S ad n) : ∀ i, i < 4 → ∀ j, j < 4 → ad 2 i = ad 2 j → i = j := h.2.2.2.2.2.2.2.2.2.2.2.2.2.2.2.2.2.2.2.2.2.2.2.2.2.2.2.2.2.2.2.2.2.2.2.2.1
theorem XA.j4 {S : HS} {ad : AD} {n : Nat} (h : XA S ad n) : ∀ i, i < 4 → ∀ j, j < 4 → ad 4 i = ad 4 j → i = j := h.2.2.2.2.2.2.2.2.2.2.2.2.2.2.2.2.2.2.2.2.2.2.2.2.2.2.2.2.2.2.2.2.2.2.2.2.2.1
theorem XA.j6 {S : HS} {ad : AD} {n : Nat} (h : XA S ad n) : ∀ i, i < n → ∀ j, j < n → ad 6 i = ad 6 j → i = j := h.2.2.2.2.2.2.2.2.2.2.2.2.2.2.2.2.2.2.2.2.2.2.2.2.2.2.2.2.2.2.2.2.2.2.2.2.2.2.1
theorem XA.j7 {S : HS} {ad : AD} {n : Nat} (h : XA S ad n) : ∀ i, i < n → ∀ j, j < n → ad 7 i = ad 7 j → i = j := h.2.2.2.2.2.2.2.2.2.2.2.2.2.2.2.2.2.2.2.2.2.2.2.2.2.2.2.2.2.2.2.2.2.2.2.2.2.2.2.1
theorem XA.j11 {S : HS} {ad : AD} {n : Nat} (h : XA S ad n) : ∀ i, i < 4 → ∀ j, j < 4 → ad 11 i = ad 11 j → i = j := h.2.2.2.2.2.2.2.2.2.2.2.2.2.2.2.2.2.2.2.2.2.2.2.2.2.2.2.2.2.2.2.2.2.2.2.2.2.2.2.2.1
theorem XA.j59 {S : HS} {ad : AD} {n : Nat} (h : XA S ad n) : ad 5 0 ≠ ad 9 0 := h.2.2.2.2.2.2.2.2.2.2.2.2.2.2.2.2.2.2.2.2.2.2.2.2.2.2.2.2.2.2.2.2.2.2.2.2.2.2.2.2.2.1
theorem XA.j12 {S : HS} {ad : AD} {n : Nat} (h : XA S ad n) : ad 12 0 ≠ ad 13 0 := h.2.2.2.2.2.2.2.2.2.2.2.2.2.2.2.2.2.2.2.2.2.2.2.2.2.2.2.2.2.2.2.2.2.2.2.2.2.2.2.2.2.2.1
theorem XA.hn {S : HS} {ad : AD} {n : Nat} (h : XA S ad n) : n ≤ 60 := h.2.2.2.2.2.2.2.2.2.2.2.2.2.2.2.2.2.2.2.2.2.2.2.2.2.2.2.2.2.2.2.2.2.2.2.2.2.2.2.2.2.2.2.1
theorem XA.a5n {S : HS} {ad : AD} {n : Nat} (h : XA S ad n) : ∀ i, n ≤ i → i < 60 → aR S (ad 5 0) i = none := h.2.2.2.2.2.2.2.2.2.2.2.2.2.2.2.2.2.2.2.2.2.2.2.2.2.2.2.2.2.2.2.2.2.2.2.2.2.2.2.2.2.2.2.2
def XV (S : HS) (ad : AD) (q : AS) : Prop :=
  (hI S 30 (ad 0 0) = nI (cn q 0)) ∧ (hI S 32 (ad 0 0) = nI (cn q 1)) ∧ (hI S 39 (ad 0 0) = nI (cn q 2)) ∧ (hI S 40 (ad 0 0) = nI (cn q 3)) ∧ (hI S 34 (ad 0 0) = iO (zz q 0 0 0)) ∧ (hI S 35 (ad 0 0) = iO (zz q 0 0 1)) ∧ (hI S 36 (ad 0 0) = iO (zz q 0 0 2)) ∧ (hI S 37 (ad 0 0) = iO (zz q 0 0 3)) ∧ (hI S 38 (ad 0 0) = iO (zz q 0 0 4)) ∧ (∀ i, i < 4 → hI S 0 (ad 2 i) = nI (cn q (10 + i))) ∧ (∀ i, i < 4 → ∀ k, k < 4 → hI S (1 + k) (ad 2 i) = iO (zz q 1 i k)) ∧ (∀ i, i < 4 → ∀ k, k < 3 → hI S (13 + k) (ad 4 i) = iO (zz q 2 i k)) ∧ (∀ i, i < cn q 1 → hI S 16 (ad 6 i) = nI i) ∧ (∀ i, i < cn q 1 → ∀ k, k < 7 → hI S (17 + k) (ad 6 i) = iO (zz q 3 i k)) ∧ (∀ i, i < cn q 1 → hI S 24 (ad 6 i) = bI (zz q 3 i 7 = 0)) ∧ (∀ i, i < cn q 1 → hI S 25 (ad 6 i) = if zz q 3 i 7 = 2 then iO (zz q 3 i 8) else -1) ∧ (∀ i, i < cn q 1 → hI S 27 (ad 6 i) = nI (cn q (100 + i))) ∧ (∀ i, i < cn q 1 → ∀ j, j < cn q (100 + i) → aI S (ad 7 i) j = iO (zz q 4 i j))
theorem XV.v30 {S : HS} {ad : AD} {q : AS} (h : XV S ad q) : hI S 30 (ad 0 0) = nI (cn q 0) := h.1
theorem XV.v32 {S : HS} {ad : AD} {q : AS} (h : XV S ad q) : hI S 32 (ad 0 0) = nI (cn q 1) := h.2.1
theorem XV.v39 {S : HS} {ad : AD} {q : AS} (h : XV S ad q) : hI S 39 (ad 0 0) = nI (cn q 2) := h.2.2.1
theorem XV.v40 {S : HS} {ad : AD} {q : AS} (h : XV S ad q) : hI S 40 (ad 0 0) = nI (cn q 3) := h.2.2.2.1
theorem XV.v34 {S : HS} {ad : AD} {q : AS} (h : XV S ad q) : hI S 34 (ad 0 0) = iO (zz q 0 0 0) := h.2.2.2.2.1
theorem XV.v35 {S : HS} {ad : AD} {q : AS} (h : XV S ad q) : hI S 35 (ad 0 0) = iO (zz q 0 0 1) := h.2.2.2.2.2.1
theorem XV.v36 {S : HS} {ad : AD} {q : AS} (h : XV S ad q) : hI S 36 (ad 0 0) = iO (zz q 0 0 2) := h.2.2.2.2.2.2.1
theorem XV.v37 {S : HS} {ad : AD} {q : AS} (h : XV S ad q) : hI S 37 (ad 0 0) = iO (zz q 0 0 3) := h.2.2.2.2.2.2.2.1
theorem XV.v38 {S : HS} {ad : AD} {q : AS} (h : XV S ad q) : hI S 38 (ad 0 0) = iO (zz q 0 0 4) := h.2.2.2.2.2.2.2.2.1
theorem XV.c0 {S : HS} {ad : AD} {q : AS} (h : XV S ad q) : ∀ i, i < 4 → hI S 0 (ad 2 i) = nI (cn q (10 + i)) := h.2.2.2.2.2.2.2.2.2.1
theorem XV.c1 {S : HS} {ad : AD} {q : AS} (h : XV S ad q) : ∀ i, i < 4 → ∀ k, k < 4 → hI S (1 + k) (ad 2 i) = iO (zz q 1 i k) := h.2.2.2.2.2.2.2.2.2.2.1
theorem XV.p {S : HS} {ad : AD} {q : AS} (h : XV S ad q) : ∀ i, i < 4 → ∀ k, k < 3 → hI S (13 + k) (ad 4 i) = iO (zz q 2 i k) := h.2.2.2.2.2.2.2.2.2.2.2.1
theorem XV.t16 {S : HS} {ad : AD} {q : AS} (h : XV S ad q) : ∀ i, i < cn q 1 → hI S 16 (ad 6 i) = nI i := h.2.2.2.2.2.2.2.2.2.2.2.2.1
theorem XV.tv {S : HS} {ad : AD} {q : AS} (h : XV S ad q) : ∀ i, i < cn q 1 → ∀ k, k < 7 → hI S (17 + k) (ad 6 i) = iO (zz q 3 i k) := h.2.2.2.2.2.2.2.2.2.2.2.2.2.1
theorem XV.t24 {S : HS} {ad : AD} {q : AS} (h : XV S ad q) : ∀ i, i < cn q 1 → hI S 24 (ad 6 i) = bI (zz q 3 i 7 = 0) := h.2.2.2.2.2.2.2.2.2.2.2.2.2.2.1
theorem XV.t25 {S : HS} {ad : AD} {q : AS} (h : XV S ad q) : ∀ i, i < cn q 1 → hI S 25 (ad 6 i) = if zz q 3 i 7 = 2 then iO (zz q 3 i 8) else -1 := h.2.2.2.2.2.2.2.2.2.2.2.2.2.2.2.1
theorem XV.t27 {S : HS} {ad : AD} {q : AS} (h : XV S ad q) : ∀ i, i < cn q 1 → hI S 27 (ad 6 i) = nI (cn q (100 + i)) := h.2.2.2.2.2.2.2.2.2.2.2.2.2.2.2.2.1
theorem XV.sg {S : HS} {ad : AD} {q : AS} (h : XV S ad q) : ∀ i, i < cn q 1 → ∀ j, j < cn q (100 + i) → aI S (ad 7 i) j = iO (zz q 4 i j) := h.2.2.2.2.2.2.2.2.2.2.2.2.2.2.2.2.2
def XR (S : HS) (ad : AD) (q : AS) : Prop := XA S ad (cn q 1) ∧ XV S ad q
/-! ## the search for the best assignment: over N places a report, of k reports that are left out of nr, with cost g for none -/
abbrev OC : Type := Int × (Nat → Int)
def fup (f : Nat → Int) (r : Nat) (v : Int) : Nat → Int := fun j => if j = r then v else f j
def bup (f : Nat → Bool) (t : Nat) : Nat → Bool := fun j => if j = t then true else f j
def better (a : Option OC) (c : OC) : OC := match a with
  | none => c
  | some b => if c.1 < b.1 then c else b
def optF (cm : Nat → Nat → Int) (r : Nat) (us : Nat → Bool) (sub : Nat → OC) : Nat → Option OC
  | 0 => none
  | i + 1 => if 0 ≤ cm r i ∧ us i = false then some (better (optF cm r us sub i) (cm r i + (sub i).1, fup (sub i).2 r i)) else optF cm r us sub i
def opt (cm : Nat → Nat → Int) (g : Int) (N nr : Nat) : Nat → (Nat → Bool) → OC
  | 0, _ => (0, fun _ => -1)
  | k + 1, us => better (optF cm (nr - (k + 1)) us (fun i => opt cm g N nr k (bup us i)) N) (g + (opt cm g N nr k us).1, fup (opt cm g N nr k us).2 (nr - (k + 1)) (-1))
/-- what a beginning that costs c makes of the best so far, where its best end is o -/
def upB (b : Option OC) (c : Int) (r : Nat) (tr : Nat → Int) (o : OC) : Option OC := match b with
  | none => some (c + o.1, fun j => if j < r then tr j else o.2 j)
  | some a => if c + o.1 < a.1 then some (c + o.1, fun j => if j < r then tr j else o.2 j) else some a
def upF (b : Option OC) (c : Int) (r : Nat) (tr : Nat → Int) (o : Option OC) : Option OC := match o with
  | none => b
  | some a => upB b c r tr a
theorem upB_none {b : Option OC} {c g : Int} {r : Nat} {tr : Nat → Int} {o : Option OC} {sub : OC} {v : Int} (hr : ∀ j, j < r + 1 → (if j < r then tr j else v) = fup tr r v j) :
    upB (upF b c r tr o) (c + g) (r + 1) (fup tr r v) sub = upB b c r tr (better o (g + sub.1, fup sub.2 r v)) := by
  have key : (fun j => if j < r + 1 then fup tr r v j else sub.2 j) = (fun j => if j < r then tr j else fup sub.2 r v j) := by
    funext j
    by_cases h1 : j < r
    · rw [if_pos (by omega), if_pos h1]
      unfold fup
      rw [if_neg (by omega)]
    · by_cases h2 : j = r
      · subst h2
        rw [if_pos (by omega), if_neg h1]
        unfold fup
        rw [if_pos rfl, if_pos rfl]
      · rw [if_neg (by omega), if_neg h1]
        unfold fup
        rw [if_neg h2]
  cases o with
  | none =>
    show upB b (c + g) (r + 1) (fup tr r v) sub = upB b c r tr (g + sub.1, fup sub.2 r v)
    cases b with
    | none => show some _ = some _; rw [key, Int.add_assoc]
    | some a =>
      show (if c + g + sub.1 < a.1 then some _ else some a) = (if c + (g + sub.1) < a.1 then some _ else some a)
      rw [key, Int.add_assoc]
  | some o =>
    show upB (upB b c r tr o) (c + g) (r + 1) (fup tr r v) sub = upB b c r tr (if g + sub.1 < o.1 then (g + sub.1, fup sub.2 r v) else o)
    by_cases hlt : g + sub.1 < o.1
    · rw [if_pos hlt]
      cases b with
      | none =>
        show (if c + g + sub.1 < c + o.1 then some _ else some _) = some _
        rw [if_pos (by omega), key, Int.add_assoc]
      | some a =>
        show upB (if c + o.1 < a.1 then some _ else some a) (c + g) (r + 1) (fup tr r v) sub = (if c + (g + sub.1) < a.1 then some _ else some a)
        by_cases ha : c + o.1 < a.1
        · rw [if_pos ha, if_pos (by omega)]
          show (if c + g + sub.1 < c + o.1 then some _ else some _) = some _
          rw [if_pos (by omega), key, Int.add_assoc]
        · rw [if_neg ha]
          show (if c + g + sub.1 < a.1 then some _ else some a) = _
          rw [key, Int.add_assoc]
    · rw [if_neg hlt]
      cases b with
      | none =>
        show (if c + g + sub.1 < c + o.1 then some _ else some _) = some _
        rw [if_neg (by omega)]
      | some a =>
        show upB (if c + o.1 < a.1 then some _ else some a) (c + g) (r + 1) (fup tr r v) sub = (if c + o.1 < a.1 then some _ else some a)
        by_cases ha : c + o.1 < a.1
        · rw [if_pos ha]
          show (if c + g + sub.1 < c + o.1 then some _ else some _) = some _
          rw [if_neg (by omega)]
        · rw [if_neg ha]
          show (if c + g + sub.1 < a.1 then some _ else some a) = _
          rw [if_neg (by omega)]
theorem opt_nn {cm : Nat → Nat → Int} {g : Int} (hg : 0 ≤ g) {N nr : Nat} : ∀ (k : Nat) (us : Nat → Bool), 0 ≤ (opt cm g N nr k us).1
  | 0, _ => Int.le_refl 0
  | k + 1, us => by
    have ih := opt_nn (cm := cm) hg (N := N) (nr := nr) k
    have hF : ∀ i, ∀ o, optF cm (nr - (k + 1)) us (fun i => opt cm g N nr k (bup us i)) i = some o → 0 ≤ o.1 := by
      intro i
      induction i with
      | zero => intro o h; cases h
      | succ i ih2 =>
        intro o h
        unfold optF at h
        split at h
        · rename_i hc
          cases h
          unfold better
          split
          · have := ih (bup us i)
            show 0 ≤ cm _ i + _
            omega
          · rename_i b hb
            split
            · have := ih (bup us i)
              show 0 ≤ cm _ i + _
              omega
            · exact ih2 b hb
        · exact ih2 o h
    unfold opt better
    split
    · have := ih us
      show 0 ≤ g + _
      omega
    · rename_i b hb
      split
      · have := ih us
        show 0 ≤ g + _
        omega
      · exact hF N b hb
theorem opt_le {cm : Nat → Nat → Int} {g : Int} {N nr : Nat} : ∀ (k : Nat) (us : Nat → Bool), (opt cm g N nr k us).1 ≤ k * g
  | 0, _ => by show (0 : Int) ≤ _; simp
  | k + 1, us => by
    have ih := opt_le (cm := cm) (g := g) (N := N) (nr := nr) k us
    have e : ((k + 1 : Nat) : Int) * g = k * g + g := by rw [Int.natCast_add, Int.add_mul]; simp
    unfold opt better
    split
    · show g + _ ≤ _
      omega
    · split
      · show g + _ ≤ _
        omega
      · rename_i b hb hlt
        have : ¬ g + (opt cm g N nr k us).1 < b.1 := hlt
        omega
