/-! what the abstract state keeps to, and what is reckoned from it -/
def bd (z lo hi : Int) : Prop := lo ≤ z ∧ z ≤ hi
def BI (q : AS) : Prop :=
  (cn q 0 ≤ 4) ∧ (cn q 1 ≤ 60) ∧ (∀ i, i < 4 → cn q (10 + i) ≤ 2) ∧ (∀ i, i < 4 → 1 ≤ cn q (10 + i) → bd (zz q 1 i 2) 0 9999 ∧ bd (zz q 1 i 3) 0 9999) ∧ (∀ i, i < 4 → cn q (10 + i) = 2 → bd (zz q 1 i 0) 0 9999 ∧ bd (zz q 1 i 1) 0 9999 ∧ zz q 1 i 0 < zz q 1 i 2 ∧ zz q 1 i 2 - zz q 1 i 0 ≤ 2 * (zz q 1 i 3 - zz q 1 i 1) ∧ zz q 1 i 3 - zz q 1 i 1 ≤ 2 * (zz q 1 i 2 - zz q 1 i 0)) ∧ (∀ r, r < cn q 0 → bd (zz q 2 r 0) (-20000) 30000 ∧ bd (zz q 2 r 1) (-999) 999 ∧ bd (zz q 2 r 2) (-999) 999) ∧ (∀ t, t < cn q 1 → bd (zz q 3 t 0) (-20000) 30000 ∧ bd (zz q 3 t 1) (-24000) 24000 ∧ bd (zz q 3 t 2) (-24000) 24000 ∧ bd (zz q 3 t 3) (-1600) 1600 ∧ bd (zz q 3 t 4) (-1600) 1600) ∧ (∀ t, t < cn q 1 → zz q 3 t 7 = 0 ∨ zz q 3 t 7 = 1 ∨ zz q 3 t 7 = 2) ∧ (bd (zz q 0 0 0) 1 500) ∧ (bd (zz q 0 0 1) 1 16) ∧ (bd (zz q 0 0 2) 0 16) ∧ (bd (zz q 0 0 3) 1 9) ∧ (bd (zz q 0 0 4) 0 100) ∧ (cntP (liveP q) (cn q 1) ≤ 6) ∧ (∀ t, t < cn q 1 → cn q (100 + t) ≤ 500 ∧ 1 ≤ cn q (100 + t))
theorem BI.b0 {q : AS} (h : BI q) : cn q 0 ≤ 4 := h.1
theorem BI.b1 {q : AS} (h : BI q) : cn q 1 ≤ 60 := h.2.1
theorem BI.bc {q : AS} (h : BI q) : ∀ i, i < 4 → cn q (10 + i) ≤ 2 := h.2.2.1
theorem BI.bl {q : AS} (h : BI q) : ∀ i, i < 4 → 1 ≤ cn q (10 + i) → bd (zz q 1 i 2) 0 9999 ∧ bd (zz q 1 i 3) 0 9999 := h.2.2.2.1
theorem BI.be {q : AS} (h : BI q) : ∀ i, i < 4 → cn q (10 + i) = 2 → bd (zz q 1 i 0) 0 9999 ∧ bd (zz q 1 i 1) 0 9999 ∧ zz q 1 i 0 < zz q 1 i 2 ∧ zz q 1 i 2 - zz q 1 i 0 ≤ 2 * (zz q 1 i 3 - zz q 1 i 1) ∧ zz q 1 i 3 - zz q 1 i 1 ≤ 2 * (zz q 1 i 2 - zz q 1 i 0) := h.2.2.2.2.1
theorem BI.br {q : AS} (h : BI q) : ∀ r, r < cn q 0 → bd (zz q 2 r 0) (-20000) 30000 ∧ bd (zz q 2 r 1) (-999) 999 ∧ bd (zz q 2 r 2) (-999) 999 := h.2.2.2.2.2.1
theorem BI.bt {q : AS} (h : BI q) : ∀ t, t < cn q 1 → bd (zz q 3 t 0) (-20000) 30000 ∧ bd (zz q 3 t 1) (-24000) 24000 ∧ bd (zz q 3 t 2) (-24000) 24000 ∧ bd (zz q 3 t 3) (-1600) 1600 ∧ bd (zz q 3 t 4) (-1600) 1600 := h.2.2.2.2.2.2.1
theorem BI.bs {q : AS} (h : BI q) : ∀ t, t < cn q 1 → zz q 3 t 7 = 0 ∨ zz q 3 t 7 = 1 ∨ zz q 3 t 7 = 2 := h.2.2.2.2.2.2.2.1
theorem BI.g0 {q : AS} (h : BI q) : bd (zz q 0 0 0) 1 500 := h.2.2.2.2.2.2.2.2.1
theorem BI.g1 {q : AS} (h : BI q) : bd (zz q 0 0 1) 1 16 := h.2.2.2.2.2.2.2.2.2.1
theorem BI.g2 {q : AS} (h : BI q) : bd (zz q 0 0 2) 0 16 := h.2.2.2.2.2.2.2.2.2.2.1
theorem BI.g3 {q : AS} (h : BI q) : bd (zz q 0 0 3) 1 9 := h.2.2.2.2.2.2.2.2.2.2.2.1
theorem BI.g4 {q : AS} (h : BI q) : bd (zz q 0 0 4) 0 100 := h.2.2.2.2.2.2.2.2.2.2.2.2.1
theorem BI.bv {q : AS} (h : BI q) : cntP (liveP q) (cn q 1) ≤ 6 := h.2.2.2.2.2.2.2.2.2.2.2.2.2.1
theorem BI.bh {q : AS} (h : BI q) : ∀ t, t < cn q 1 → cn q (100 + t) ≤ 500 ∧ 1 ≤ cn q (100 + t) := h.2.2.2.2.2.2.2.2.2.2.2.2.2.2
def ahd (q : AS) (t : Nat) (time : Int) (ax : Nat) : Int := zz q 3 t (1 + ax) + zz q 3 t (3 + ax) * (time - zz q 3 t 0)
def rsd (q : AS) (r t ax : Nat) : Int := 16 * zz q 2 r (1 + ax) - ahd q t (zz q 2 r 0) ax
def dst (q : AS) (r t : Nat) : Int := rsd q r t 0 * rsd q r t 0 + rsd q r t 1 * rsd q r t 1
def gsq (q : AS) : Int := 256 * (zz q 0 0 0 * zz q 0 0 0)
/-- the distance of a report and a track, if the track's time and the gate allow it -/
def ctk (q : AS) (r t : Nat) : Int := if zz q 2 r 0 < zz q 3 t 0 ∨ gsq q < dst q r t then -1 else dst q r t
theorem mul_bd {a b A B : Int} (ha : bd a (-A) A) (hb : bd b (-B) B) : bd (a * b) (-(A * B)) (A * B) := by
  have h : (a * b).natAbs = a.natAbs * b.natAbs := Int.natAbs_mul a b
  have h1 : a.natAbs ≤ A.toNat := by unfold bd at ha; omega
  have h2 : b.natAbs ≤ B.toNat := by unfold bd at hb; omega
  have h3 : a.natAbs * b.natAbs ≤ A.toNat * B.toNat := Nat.mul_le_mul h1 h2
  have hA : 0 ≤ A := by unfold bd at ha; omega
  have hB : 0 ≤ B := by unfold bd at hb; omega
  have h4 : ((A.toNat * B.toNat : Nat) : Int) = A * B := by rw [Int.natCast_mul, Int.toNat_of_nonneg hA, Int.toNat_of_nonneg hB]
  unfold bd
  omega
theorem sq_nn (a : Int) : 0 ≤ a * a := by
  rcases Int.le_total 0 a with h | h
  · exact Int.mul_nonneg h h
  · exact Int.mul_nonneg_of_nonpos_of_nonpos h h
theorem ahd_bd {q : AS} (hB : BI q) {t : Nat} (ht : t < cn q 1) {time : Int} (h : bd time (-20000) 40000) (ax : Nat) (hax : ax < 2) : bd (ahd q t time ax) (-97000000) 97000000 := by
  obtain ⟨h0, h1, h2, h3, h4⟩ := hB.bt t ht
  have hx : bd (zz q 3 t (1 + ax)) (-24000) 24000 := by
    rcases (show ax = 0 ∨ ax = 1 by omega) with rfl | rfl
    · exact h1
    · exact h2
  have hv : bd (zz q 3 t (3 + ax)) (-1600) 1600 := by
    rcases (show ax = 0 ∨ ax = 1 by omega) with rfl | rfl
    · exact h3
    · exact h4
  have hd : bd (time - zz q 3 t 0) (-60000) 60000 := by unfold bd at *; omega
  have hm := mul_bd hv hd
  unfold ahd
  unfold bd at *
  omega
theorem rsd_bd {q : AS} (hB : BI q) {r t : Nat} (hr : r < cn q 0) (ht : t < cn q 1) (ax : Nat) (hax : ax < 2) : bd (rsd q r t ax) (-98000000) 98000000 := by
  obtain ⟨h0, h1, h2⟩ := hB.br r hr
  have hx : bd (zz q 2 r (1 + ax)) (-999) 999 := by
    rcases (show ax = 0 ∨ ax = 1 by omega) with rfl | rfl
    · exact h1
    · exact h2
  have ha := ahd_bd hB ht (time := zz q 2 r 0) (by unfold bd at *; omega) ax hax
  unfold rsd
  unfold bd at *
  omega
theorem sq_bd {a : Int} (h : bd a (-200000000) 200000000) : bd (a * a) 0 40000000000000000 := by
  have h1 := mul_bd h h
  have h2 := sq_nn a
  unfold bd at *
  omega
theorem dst_bd {q : AS} (hB : BI q) {r t : Nat} (hr : r < cn q 0) (ht : t < cn q 1) : bd (dst q r t) 0 80000000000000000 := by
  have h0 := rsd_bd hB hr ht 0 (by omega)
  have h1 := rsd_bd hB hr ht 1 (by omega)
  have s0 := sq_bd (a := rsd q r t 0) (by unfold bd at *; omega)
  have s1 := sq_bd (a := rsd q r t 1) (by unfold bd at *; omega)
  unfold dst
  unfold bd at *
  omega
theorem gsq_bd {q : AS} (hB : BI q) : bd (gsq q) 256 64000000 := by
  have h := hB.g0
  have h1 : bd (zz q 0 0 0) (-500) 500 := by unfold bd at *; omega
  have hm := mul_bd h1 h1
  have h2 : 1 * 1 ≤ zz q 0 0 0 * zz q 0 0 0 := Int.mul_le_mul h.1 h.1 (by omega) (by have := h.1; omega)
  unfold gsq
  unfold bd at *
  omega
theorem lit32 (n : Nat) : (OfNat.ofNat n : Int32) = iO n := rfl
/-- a sum of squares of the machine's longs -/
theorem sqF_O {a b : Int} (ha : bd a (-200000000) 200000000) (hb : bd b (-200000000) 200000000) : (iO a).toInt64 * (iO a).toInt64 + (iO b).toInt64 * (iO b).toInt64 = lO (a * a + b * b) := by
  unfold bd at ha hb
  rw [iO_l (by omega) (by omega), iO_l (by omega) (by omega), lO_mul, lO_mul, lO_add]
theorem gs_O {q : AS} (hB : BI q) : (16 * iO (zz q 0 0 0)).toInt64 * (16 * iO (zz q 0 0 0)).toInt64 + (0 : Int32).toInt64 * (0 : Int32).toInt64 = lO (gsq q) := by
  have h := hB.g0
  have e : (16 : Int32) * iO (zz q 0 0 0) = iO (16 * zz q 0 0 0) := iO_mul 16 _
  rw [e, show (0 : Int32) = iO 0 from rfl, sqF_O (by unfold bd at *; omega) (by unfold bd; omega)]
  unfold gsq
  congr 1
  have e2 : 16 * zz q 0 0 0 * (16 * zz q 0 0 0) = 256 * (zz q 0 0 0 * zz q 0 0 0) := by
    rw [Int.mul_assoc, Int.mul_left_comm (zz q 0 0 0) 16, ← Int.mul_assoc 16 16]
    rfl
  rw [e2]
  omega
