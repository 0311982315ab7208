/-! the model's object: where its rows lie, and what they hold. am: 0 root, 1 pairs, 2 pairMany, 3 m, 4 histories, 5 historyMany, 6 times, 7 xs, 8 ys, 9 tried, 10 best, 11 moved, 20 + t a history's row; ml t: its length -/
abbrev AM : Type := Nat → Nat
def NA (S : HS) (am : AM) (n : Nat) : Prop :=
  (hK S (am 0) = 6) ∧ (hK S (am 1) = 10) ∧ (hK S (am 2) = 10) ∧ (hK S (am 3) = 10) ∧ (hK S (am 5) = 10) ∧ (hK S (am 6) = 10) ∧ (hK S (am 7) = 10) ∧ (hK S (am 8) = 10) ∧ (hK S (am 9) = 10) ∧ (hK S (am 10) = 10) ∧ (hK S (am 11) = 10) ∧ (hK S (am 4) = 17) ∧ (∀ t, t < n → hK S (am (20 + t)) = 11) ∧ (hR S 41 (am 0) = some (am 1)) ∧ (hR S 42 (am 0) = some (am 2)) ∧ (hR S 43 (am 0) = some (am 3)) ∧ (hR S 45 (am 0) = some (am 4)) ∧ (hR S 46 (am 0) = some (am 5)) ∧ (hR S 47 (am 0) = some (am 6)) ∧ (hR S 48 (am 0) = some (am 7)) ∧ (hR S 49 (am 0) = some (am 8)) ∧ (hR S 58 (am 0) = some (am 9)) ∧ (hR S 59 (am 0) = some (am 10)) ∧ (hR S 62 (am 0) = some (am 11)) ∧ (hN S (am 1) = 16) ∧ (hN S (am 2) = 4) ∧ (hN S (am 3) = 540) ∧ (hN S (am 4) = 60) ∧ (hN S (am 5) = 60) ∧ (hN S (am 6) = 4) ∧ (hN S (am 7) = 4) ∧ (hN S (am 8) = 4) ∧ (hN S (am 9) = 4) ∧ (hN S (am 10) = 4) ∧ (hN S (am 11) = 2) ∧ (∀ t, t < n → aR S (am 4) t = some (am (20 + t))) ∧ (∀ i, i < 12 → ∀ j, j < 12 → am i = am j → i = j) ∧ (∀ i, i < n → ∀ j, j < n → am (20 + i) = am (20 + j) → i = j) ∧ (n ≤ 60)
theorem NA.k0 {S : HS} {am : AM} {n : Nat} (h : NA S am n) : hK S (am 0) = 6 := h.1
theorem NA.k1 {S : HS} {am : AM} {n : Nat} (h : NA S am n) : hK S (am 1) = 10 := h.2.1
theorem NA.k2 {S : HS} {am : AM} {n : Nat} (h : NA S am n) : hK S (am 2) = 10 := h.2.2.1
theorem NA.k3 {S : HS} {am : AM} {n : Nat} (h : NA S am n) : hK S (am 3) = 10 := h.2.2.2.1
theorem NA.k5 {S : HS} {am : AM} {n : Nat} (h : NA S am n) : hK S (am 5) = 10 := h.2.2.2.2.1
theorem NA.k6 {S : HS} {am : AM} {n : Nat} (h : NA S am n) : hK S (am 6) = 10 := h.2.2.2.2.2.1
theorem NA.k7 {S : HS} {am : AM} {n : Nat} (h : NA S am n) : hK S (am 7) = 10 := h.2.2.2.2.2.2.1
theorem NA.k8 {S : HS} {am : AM} {n : Nat} (h : NA S am n) : hK S (am 8) = 10 := h.2.2.2.2.2.2.2.1
theorem NA.k9 {S : HS} {am : AM} {n : Nat} (h : NA S am n) : hK S (am 9) = 10 := h.2.2.2.2.2.2.2.2.1
theorem NA.k10 {S : HS} {am : AM} {n : Nat} (h : NA S am n) : hK S (am 10) = 10 := h.2.2.2.2.2.2.2.2.2.1
theorem NA.k11 {S : HS} {am : AM} {n : Nat} (h : NA S am n) : hK S (am 11) = 10 := h.2.2.2.2.2.2.2.2.2.2.1
theorem NA.k4 {S : HS} {am : AM} {n : Nat} (h : NA S am n) : hK S (am 4) = 17 := h.2.2.2.2.2.2.2.2.2.2.2.1
theorem NA.kh {S : HS} {am : AM} {n : Nat} (h : NA S am n) : ∀ t, t < n → hK S (am (20 + t)) = 11 := h.2.2.2.2.2.2.2.2.2.2.2.2.1
theorem NA.r41 {S : HS} {am : AM} {n : Nat} (h : NA S am n) : hR S 41 (am 0) = some (am 1) := h.2.2.2.2.2.2.2.2.2.2.2.2.2.1
theorem NA.r42 {S : HS} {am : AM} {n : Nat} (h : NA S am n) : hR S 42 (am 0) = some (am 2) := h.2.2.2.2.2.2.2.2.2.2.2.2.2.2.1
theorem NA.r43 {S : HS} {am : AM} {n : Nat} (h : NA S am n) : hR S 43 (am 0) = some (am 3) := h.2.2.2.2.2.2.2.2.2.2.2.2.2.2.2.1
theorem NA.r45 {S : HS} {am : AM} {n : Nat} (h : NA S am n) : hR S 45 (am 0) = some (am 4) := h.2.2.2.2.2.2.2.2.2.2.2.2.2.2.2.2.1
theorem NA.r46 {S : HS} {am : AM} {n : Nat} (h : NA S am n) : hR S 46 (am 0) = some (am 5) := h.2.2.2.2.2.2.2.2.2.2.2.2.2.2.2.2.2.1
theorem NA.r47 {S : HS} {am : AM} {n : Nat} (h : NA S am n) : hR S 47 (am 0) = some (am 6) := h.2.2.2.2.2.2.2.2.2.2.2.2.2.2.2.2.2.2.1
theorem NA.r48 {S : HS} {am : AM} {n : Nat} (h : NA S am n) : hR S 48 (am 0) = some (am 7) := h.2.2.2.2.2.2.2.2.2.2.2.2.2.2.2.2.2.2.2.1
theorem NA.r49 {S : HS} {am : AM} {n : Nat} (h : NA S am n) : hR S 49 (am 0) = some (am 8) := h.2.2.2.2.2.2.2.2.2.2.2.2.2.2.2.2.2.2.2.2.1
theorem NA.r58 {S : HS} {am : AM} {n : Nat} (h : NA S am n) : hR S 58 (am 0) = some (am 9) := h.2.2.2.2.2.2.2.2.2.2.2.2.2.2.2.2.2.2.2.2.2.1
theorem NA.r59 {S : HS} {am : AM} {n : Nat} (h : NA S am n) : hR S 59 (am 0) = some (am 10) := h.2.2.2.2.2.2.2.2.2.2.2.2.2.2.2.2.2.2.2.2.2.2.1
theorem NA.r62 {S : HS} {am : AM} {n : Nat} (h : NA S am n) : hR S 62 (am 0) = some (am 11) := h.2.2.2.2.2.2.2.2.2.2.2.2.2.2.2.2.2.2.2.2.2.2.2.1
theorem NA.n1 {S : HS} {am : AM} {n : Nat} (h : NA S am n) : hN S (am 1) = 16 := h.2.2.2.2.2.2.2.2.2.2.2.2.2.2.2.2.2.2.2.2.2.2.2.2.1
theorem NA.n2 {S : HS} {am : AM} {n : Nat} (h : NA S am n) : hN S (am 2) = 4 := h.2.2.2.2.2.2.2.2.2.2.2.2.2.2.2.2.2.2.2.2.2.2.2.2.2.1
theorem NA.n3 {S : HS} {am : AM} {n : Nat} (h : NA S am n) : hN S (am 3) = 540 := h.2.2.2.2.2.2.2.2.2.2.2.2.2.2.2.2.2.2.2.2.2.2.2.2.2.2.1
theorem NA.n4 {S : HS} {am : AM} {n : Nat} (h : NA S am n) : hN S (am 4) = 60 := h.2.2.2.2.2.2.2.2.2.2.2.2.2.2.2.2.2.2.2.2.2.2.2.2.2.2.2.1
theorem NA.n5 {S : HS} {am : AM} {n : Nat} (h : NA S am n) : hN S (am 5) = 60 := h.2.2.2.2.2.2.2.2.2.2.2.2.2.2.2.2.2.2.2.2.2.2.2.2.2.2.2.2.1
theorem NA.n6 {S : HS} {am : AM} {n : Nat} (h : NA S am n) : hN S (am 6) = 4 := h.2.2.2.2.2.2.2.2.2.2.2.2.2.2.2.2.2.2.2.2.2.2.2.2.2.2.2.2.2.1
theorem NA.n7 {S : HS} {am : AM} {n : Nat} (h : NA S am n) : hN S (am 7) = 4 := h.2.2.2.2.2.2.2.2.2.2.2.2.2.2.2.2.2.2.2.2.2.2.2.2.2.2.2.2.2.2.1
theorem NA.n8 {S : HS} {am : AM} {n : Nat} (h : NA S am n) : hN S (am 8) = 4 := h.2.2.2.2.2.2.2.2.2.2.2.2.2.2.2.2.2.2.2.2.2.2.2.2.2.2.2.2.2.2.2.1
theorem NA.n9 {S : HS} {am : AM} {n : Nat} (h : NA S am n) : hN S (am 9) = 4 := h.2.2.2.2.2.2.2.2.2.2.2.2.2.2.2.2.2.2.2.2.2.2.2.2.2.2.2.2.2.2.2.2.1
theorem NA.n10 {S : HS} {am : AM} {n : Nat} (h : NA S am n) : hN S (am 10) = 4 := h.2.2.2.2.2.2.2.2.2.2.2.2.2.2.2.2.2.2.2.2.2.2.2.2.2.2.2.2.2.2.2.2.2.1
theorem NA.n11 {S : HS} {am : AM} {n : Nat} (h : NA S am n) : hN S (am 11) = 2 := h.2.2.2.2.2.2.2.2.2.2.2.2.2.2.2.2.2.2.2.2.2.2.2.2.2.2.2.2.2.2.2.2.2.2.1
theorem NA.a4 {S : HS} {am : AM} {n : Nat} (h : NA S am n) : ∀ t, t < n → aR S (am 4) t = some (am (20 + t)) := h.2.2.2.2.2.2.2.2.2.2.2.2.2.2.2.2.2.2.2.2.2.2.2.2.2.2.2.2.2.2.2.2.2.2.2.1
theorem NA.jj {S : HS} {am : AM} {n : Nat} (h : NA S am n) : ∀ i, i < 12 → ∀ j, j < 12 → am i = am j → i = j := h.2.2.2.2.2.2.2.2.2.2.2.2.2.2.2.2.2.2.2.2.2.2.2.2.2.2.2.2.2.2.2.2.2.2.2.2.1
theorem NA.jh {S : HS} {am : AM} {n : Nat} (h : NA S am n) : ∀ i, i < n → ∀ j, j < n → am (20 + i) = am (20 + j) → i = j := h.2.2.2.2.2.2.2.2.2.2.2.2.2.2.2.2.2.2.2.2.2.2.2.2.2.2.2.2.2.2.2.2.2.2.2.2.2.1
theorem NA.hn {S : HS} {am : AM} {n : Nat} (h : NA S am n) : n ≤ 60 := h.2.2.2.2.2.2.2.2.2.2.2.2.2.2.2.2.2.2.2.2.2.2.2.2.2.2.2.2.2.2.2.2.2.2.2.2.2.2
def NV (S : HS) (am : AM) (q : AS) : Prop :=
  (hI S 44 (am 0) = nI (cn q 1)) ∧ (hI S 50 (am 0) = nI (cn q 0)) ∧ (hI S 51 (am 0) = iO (zz q 0 0 0)) ∧ (hI S 52 (am 0) = iO (zz q 0 0 1)) ∧ (hI S 53 (am 0) = iO (zz q 0 0 2)) ∧ (hI S 54 (am 0) = iO (zz q 0 0 3)) ∧ (hI S 55 (am 0) = iO (zz q 0 0 4)) ∧ (hI S 56 (am 0) = nI (cn q 3)) ∧ (hI S 57 (am 0) = nI (cn q 2)) ∧ (∀ i, i < 4 → aI S (am 2) i = nI (cn q (10 + i))) ∧ (∀ i, i < 4 → cn q (10 + i) = 1 → ∀ k, k < 2 → aI S (am 1) (4 * i + k) = iO (zz q 1 i (k + 2))) ∧ (∀ i, i < 4 → cn q (10 + i) = 2 → ∀ k, k < 4 → aI S (am 1) (4 * i + k) = iO (zz q 1 i k)) ∧ (∀ t, t < cn q 1 → ∀ k, k < 9 → aI S (am 3) (9 * t + k) = iO (zz q 3 t k)) ∧ (∀ t, t < cn q 1 → aI S (am 5) t = nI (cn q (100 + t))) ∧ (∀ t, t < cn q 1 → ∀ j, j < cn q (100 + t) → aI S (am (20 + t)) j = iO (zz q 4 t j)) ∧ (∀ t, t < cn q 1 → cn q (100 + t) ≤ hN S (am (20 + t)) ∧ 8 ≤ hN S (am (20 + t)) ∧ hN S (am (20 + t)) ≤ 1024) ∧ (∀ r, r < 4 → aI S (am 6) r = iO (zz q 2 r 0)) ∧ (∀ r, r < 4 → aI S (am 7) r = iO (zz q 2 r 1)) ∧ (∀ r, r < 4 → aI S (am 8) r = iO (zz q 2 r 2))
theorem NV.v44 {S : HS} {am : AM} {q : AS} (h : NV S am q) : hI S 44 (am 0) = nI (cn q 1) := h.1
theorem NV.v50 {S : HS} {am : AM} {q : AS} (h : NV S am q) : hI S 50 (am 0) = nI (cn q 0) := h.2.1
theorem NV.v51 {S : HS} {am : AM} {q : AS} (h : NV S am q) : hI S 51 (am 0) = iO (zz q 0 0 0) := h.2.2.1
theorem NV.v52 {S : HS} {am : AM} {q : AS} (h : NV S am q) : hI S 52 (am 0) = iO (zz q 0 0 1) := h.2.2.2.1
theorem NV.v53 {S : HS} {am : AM} {q : AS} (h : NV S am q) : hI S 53 (am 0) = iO (zz q 0 0 2) := h.2.2.2.2.1
theorem NV.v54 {S : HS} {am : AM} {q : AS} (h : NV S am q) : hI S 54 (am 0) = iO (zz q 0 0 3) := h.2.2.2.2.2.1
theorem NV.v55 {S : HS} {am : AM} {q : AS} (h : NV S am q) : hI S 55 (am 0) = iO (zz q 0 0 4) := h.2.2.2.2.2.2.1
theorem NV.v56 {S : HS} {am : AM} {q : AS} (h : NV S am q) : hI S 56 (am 0) = nI (cn q 3) := h.2.2.2.2.2.2.2.1
theorem NV.v57 {S : HS} {am : AM} {q : AS} (h : NV S am q) : hI S 57 (am 0) = nI (cn q 2) := h.2.2.2.2.2.2.2.2.1
theorem NV.pm {S : HS} {am : AM} {q : AS} (h : NV S am q) : ∀ i, i < 4 → aI S (am 2) i = nI (cn q (10 + i)) := h.2.2.2.2.2.2.2.2.2.1
theorem NV.p1 {S : HS} {am : AM} {q : AS} (h : NV S am q) : ∀ i, i < 4 → cn q (10 + i) = 1 → ∀ k, k < 2 → aI S (am 1) (4 * i + k) = iO (zz q 1 i (k + 2)) := h.2.2.2.2.2.2.2.2.2.2.1
theorem NV.p2 {S : HS} {am : AM} {q : AS} (h : NV S am q) : ∀ i, i < 4 → cn q (10 + i) = 2 → ∀ k, k < 4 → aI S (am 1) (4 * i + k) = iO (zz q 1 i k) := h.2.2.2.2.2.2.2.2.2.2.2.1
theorem NV.m {S : HS} {am : AM} {q : AS} (h : NV S am q) : ∀ t, t < cn q 1 → ∀ k, k < 9 → aI S (am 3) (9 * t + k) = iO (zz q 3 t k) := h.2.2.2.2.2.2.2.2.2.2.2.2.1
theorem NV.hm {S : HS} {am : AM} {q : AS} (h : NV S am q) : ∀ t, t < cn q 1 → aI S (am 5) t = nI (cn q (100 + t)) := h.2.2.2.2.2.2.2.2.2.2.2.2.2.1
theorem NV.hr {S : HS} {am : AM} {q : AS} (h : NV S am q) : ∀ t, t < cn q 1 → ∀ j, j < cn q (100 + t) → aI S (am (20 + t)) j = iO (zz q 4 t j) := h.2.2.2.2.2.2.2.2.2.2.2.2.2.2.1
theorem NV.hl {S : HS} {am : AM} {q : AS} (h : NV S am q) : ∀ t, t < cn q 1 → cn q (100 + t) ≤ hN S (am (20 + t)) ∧ 8 ≤ hN S (am (20 + t)) ∧ hN S (am (20 + t)) ≤ 1024 := h.2.2.2.2.2.2.2.2.2.2.2.2.2.2.2.1
theorem NV.t6 {S : HS} {am : AM} {q : AS} (h : NV S am q) : ∀ r, r < 4 → aI S (am 6) r = iO (zz q 2 r 0) := h.2.2.2.2.2.2.2.2.2.2.2.2.2.2.2.2.1
theorem NV.t7 {S : HS} {am : AM} {q : AS} (h : NV S am q) : ∀ r, r < 4 → aI S (am 7) r = iO (zz q 2 r 1) := h.2.2.2.2.2.2.2.2.2.2.2.2.2.2.2.2.2.1
theorem NV.t8 {S : HS} {am : AM} {q : AS} (h : NV S am q) : ∀ r, r < 4 → aI S (am 8) r = iO (zz q 2 r 2) := h.2.2.2.2.2.2.2.2.2.2.2.2.2.2.2.2.2.2
/-- ints as longs -/
theorem tl_lt (a b : Int32) : a.toInt64 < b.toInt64 ↔ a < b := by rw [Int64.lt_iff_toInt_lt, Int32.lt_iff_toInt_lt, Int32.toInt_toInt64, Int32.toInt_toInt64]
theorem NA.of {S T : HS} {am : AM} {n : Nat} (h1 : hK T = hK S) (h2 : hR T = hR S) (h3 : hN T = hN S) (h4 : aR T = aR S) (h : NA S am n) : NA T am n := by
  unfold NA at *
  rw [h1, h2, h3, h4]
  exact h
/-- what the calls leave behind that no later call looks at: what was thrown, the search's rows, 'moved' -/
def FrN (S T : HS) (am : AM) : Prop := (∀ a, hK T a = hK S a) ∧ (∀ f a, hR T f a = hR S f a) ∧ (∀ a, hN T a = hN S a) ∧ (∀ f a, f ≠ 61 → hI T f a = hI S f a) ∧ (∀ a, aR T a = aR S a) ∧ (∀ a, a ≠ am 9 → a ≠ am 10 → a ≠ am 11 → aI T a = aI S a)
theorem FrN.rf {S : HS} {am : AM} : FrN S S am := ⟨fun _ => rfl, fun _ _ => rfl, fun _ => rfl, fun _ _ _ => rfl, fun _ => rfl, fun _ _ _ _ => rfl⟩
theorem FrN.tr {S T U : HS} {am : AM} (h : FrN S T am) (g : FrN T U am) : FrN S U am := ⟨fun a => (g.1 a).trans (h.1 a), fun f a => (g.2.1 f a).trans (h.2.1 f a), fun a => (g.2.2.1 a).trans (h.2.2.1 a), fun f a x => (g.2.2.2.1 f a x).trans (h.2.2.2.1 f a x), fun a => (g.2.2.2.2.1 a).trans (h.2.2.2.2.1 a), fun a x y z => (g.2.2.2.2.2 a x y z).trans (h.2.2.2.2.2 a x y z)⟩
theorem FrN.I {S : HS} {am : AM} {v : Int32} : FrN S (sI S 61 (am 0) v) am := ⟨fun _ => rfl, fun _ _ => rfl, fun _ => rfl, fun f a h => hI_sI2 (fun z => h z.1), fun _ => rfl, fun _ _ _ _ => rfl⟩
theorem FrN.J {S : HS} {am : AM} {f a : Nat} {v : Int64} : FrN S (sJ S f a v) am := ⟨fun _ => rfl, fun _ _ => rfl, fun _ => rfl, fun _ _ _ => rfl, fun _ => rfl, fun _ _ _ _ => rfl⟩
theorem FrN.A {S : HS} {am : AM} {i j : Nat} {v : Int32} (h : i = 9 ∨ i = 10 ∨ i = 11) : FrN S (tI S (am i) j v) am := ⟨fun _ => rfl, fun _ _ => rfl, fun _ => rfl, fun _ _ _ => rfl, fun _ => rfl, fun a x y z => aI_tI2 (by rcases h with rfl | rfl | rfl; exact x; exact y; exact z)⟩
theorem FrN.toA {S T : HS} {am : AM} {n : Nat} (f : FrN S T am) (h : NA S am n) : NA T am n := h.of (funext f.1) (funext fun x => funext (f.2.1 x)) (funext f.2.2.1) (funext f.2.2.2.2.1)
theorem FrN.toV {S T : HS} {am : AM} {q : AS} (f : FrN S T am) (hA : NA S am (cn q 1)) (h : NV S am q) : NV T am q := by
  have r : ∀ g, g ≠ 61 → hI T g (am 0) = hI S g (am 0) := fun g hg => f.2.2.2.1 g _ hg
  have a : ∀ i, i < 9 → aI T (am i) = aI S (am i) := fun i hi => f.2.2.2.2.2 _ (fun z => absurd (hA.jj i (by omega) 9 (by omega) z) (by omega)) (fun z => absurd (hA.jj i (by omega) 10 (by omega) z) (by omega)) (fun z => absurd (hA.jj i (by omega) 11 (by omega) z) (by omega))
  have hr : ∀ t, t < cn q 1 → aI T (am (20 + t)) = aI S (am (20 + t)) := fun t ht => f.2.2.2.2.2 _ (ne_kinds (hA.kh t ht) hA.k9 (by decide)) (ne_kinds (hA.kh t ht) hA.k10 (by decide)) (ne_kinds (hA.kh t ht) hA.k11 (by decide))
  exact ⟨(r _ (by decide)).trans h.v44, (r _ (by decide)).trans h.v50, (r _ (by decide)).trans h.v51, (r _ (by decide)).trans h.v52, (r _ (by decide)).trans h.v53, (r _ (by decide)).trans h.v54, (r _ (by decide)).trans h.v55, (r _ (by decide)).trans h.v56, (r _ (by decide)).trans h.v57,
    fun i hi => (congrFun (a 2 (by decide)) _).trans (h.pm i hi), fun i hi c k hk => (congrFun (a 1 (by decide)) _).trans (h.p1 i hi c k hk), fun i hi c k hk => (congrFun (a 1 (by decide)) _).trans (h.p2 i hi c k hk), fun t ht k hk => (congrFun (a 3 (by decide)) _).trans (h.m t ht k hk), fun t ht => (congrFun (a 5 (by decide)) _).trans (h.hm t ht), fun t ht j hj => (congrFun (hr t ht) _).trans (h.hr t ht j hj), fun t ht => by rw [f.2.2.1]; exact h.hl t ht,
    fun i hi => (congrFun (a 6 (by decide)) _).trans (h.t6 i hi), fun i hi => (congrFun (a 7 (by decide)) _).trans (h.t7 i hi), fun i hi => (congrFun (a 8 (by decide)) _).trans (h.t8 i hi)⟩
