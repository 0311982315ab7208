/-! numbers: what the machine's ints and longs are, as integers -/
def iO (z : Int) : Int32 := Int32.ofInt z
def lO (z : Int) : Int64 := Int64.ofInt z
theorem bm32 {z : Int} (h1 : -2147483648 ≤ z) (h2 : z < 2147483648) : z.bmod (2 ^ 32) = z := by
  rw [Int.bmod_def]
  split <;> omega
theorem bm64 {z : Int} (h1 : -9223372036854775808 ≤ z) (h2 : z < 9223372036854775808) : z.bmod (2 ^ 64) = z := by
  rw [Int.bmod_def]
  split <;> omega
theorem iO_toInt {z : Int} (h1 : -2147483648 ≤ z) (h2 : z < 2147483648) : (iO z).toInt = z := by
  unfold iO
  rw [Int32.toInt_ofInt, bm32 h1 h2]
theorem lO_toInt {z : Int} (h1 : -9223372036854775808 ≤ z) (h2 : z < 9223372036854775808) : (lO z).toInt = z := by
  unfold lO
  rw [Int64.toInt_ofInt, bm64 h1 h2]
theorem iO_of (x : Int32) : iO x.toInt = x := Int32.ofInt_toInt x
theorem iO_add (a b : Int) : iO a + iO b = iO (a + b) := (Int32.ofInt_add a b).symm
theorem iO_sub (a b : Int) : iO a - iO b = iO (a - b) := (Int32.ofInt_sub a b).symm
theorem iO_mul (a b : Int) : iO a * iO b = iO (a * b) := (Int32.ofInt_mul a b).symm
theorem lO_add (a b : Int) : lO a + lO b = lO (a + b) := (Int64.ofInt_add a b).symm
theorem lO_sub (a b : Int) : lO a - lO b = lO (a - b) := (Int64.ofInt_sub a b).symm
theorem lO_mul (a b : Int) : lO a * lO b = lO (a * b) := (Int64.ofInt_mul a b).symm
theorem nI_iO (n : Nat) : nI n = iO (n : Int) := by unfold nI iO; rfl
theorem lN_lO (n : Nat) : lN n = lO (n : Int) := by unfold lN lO; rfl
theorem iO_lt {a b : Int} (h1 : -2147483648 ≤ a) (h2 : a < 2147483648) (h3 : -2147483648 ≤ b) (h4 : b < 2147483648) : iO a < iO b ↔ a < b := by rw [Int32.lt_iff_toInt_lt, iO_toInt h1 h2, iO_toInt h3 h4]
theorem iO_le {a b : Int} (h1 : -2147483648 ≤ a) (h2 : a < 2147483648) (h3 : -2147483648 ≤ b) (h4 : b < 2147483648) : iO a ≤ iO b ↔ a ≤ b := by rw [Int32.le_iff_toInt_le, iO_toInt h1 h2, iO_toInt h3 h4]
theorem iO_eq {a b : Int} (h1 : -2147483648 ≤ a) (h2 : a < 2147483648) (h3 : -2147483648 ≤ b) (h4 : b < 2147483648) : iO a = iO b ↔ a = b := by rw [← Int32.toInt_inj, iO_toInt h1 h2, iO_toInt h3 h4]
theorem lO_lt {a b : Int} (h1 : -9223372036854775808 ≤ a) (h2 : a < 9223372036854775808) (h3 : -9223372036854775808 ≤ b) (h4 : b < 9223372036854775808) : lO a < lO b ↔ a < b := by rw [Int64.lt_iff_toInt_lt, lO_toInt h1 h2, lO_toInt h3 h4]
theorem lO_le {a b : Int} (h1 : -9223372036854775808 ≤ a) (h2 : a < 9223372036854775808) (h3 : -9223372036854775808 ≤ b) (h4 : b < 9223372036854775808) : lO a ≤ lO b ↔ a ≤ b := by rw [Int64.le_iff_toInt_le, lO_toInt h1 h2, lO_toInt h3 h4]
theorem lO_eq {a b : Int} (h1 : -9223372036854775808 ≤ a) (h2 : a < 9223372036854775808) (h3 : -9223372036854775808 ≤ b) (h4 : b < 9223372036854775808) : lO a = lO b ↔ a = b := by rw [← Int64.toInt_inj, lO_toInt h1 h2, lO_toInt h3 h4]
theorem iO_l {z : Int} (h1 : -2147483648 ≤ z) (h2 : z < 2147483648) : (iO z).toInt64 = lO z := Int64.toInt_inj.mp (by rw [Int32.toInt_toInt64, iO_toInt h1 h2, lO_toInt (by omega) (by omega)])
theorem lO_i (z : Int) : (lO z).toInt32 = iO z := by
  apply Int32.toInt_inj.mp
  unfold lO iO
  rw [Int64.toInt_toInt32, Int64.toInt_ofInt, Int32.toInt_ofInt]
  exact Int.bmod_bmod_of_dvd (by decide)
theorem tdiv_abs {a b M : Int} (h1 : -M ≤ a) (h2 : a ≤ M) (hb : b ≠ 0) : -M ≤ a.tdiv b ∧ a.tdiv b ≤ M := by
  have h := Int.natAbs_tdiv_le_natAbs a b
  omega
theorem iO_div {a b : Int} (h1 : -2147483647 ≤ a) (h2 : a < 2147483648) (h3 : -2147483648 ≤ b) (h4 : b < 2147483648) (hb : b ≠ 0) : iO a / iO b = iO (a.tdiv b) := by
  apply Int32.toInt_inj.mp
  have ht := tdiv_abs (M := 2147483647) (a := a) (b := b) (by omega) (by omega) hb
  rw [Int32.toInt_div, iO_toInt (by omega) h2, iO_toInt h3 h4, iO_toInt (by omega) (by omega)]
  exact bm32 (by omega) (by omega)
theorem lO_div {a b : Int} (h1 : -9223372036854775807 ≤ a) (h2 : a < 9223372036854775808) (h3 : -9223372036854775808 ≤ b) (h4 : b < 9223372036854775808) (hb : b ≠ 0) : lO a / lO b = lO (a.tdiv b) := by
  apply Int64.toInt_inj.mp
  have ht := tdiv_abs (M := 9223372036854775807) (a := a) (b := b) (by omega) (by omega) hb
  rw [Int64.toInt_div, lO_toInt (by omega) h2, lO_toInt h3 h4, lO_toInt (by omega) (by omega)]
  exact bm64 (by omega) (by omega)
theorem xor_sign {a b : Int} (h1 : -2147483648 ≤ a) (h2 : a < 2147483648) (h4 : b < 2147483648) (hb : 0 < b) : (0 ≤ iO a ^^^ iO b) ↔ 0 ≤ a := by
  have e1 : (iO a).toBitVec.toInt = a := iO_toInt h1 h2
  have e2 : (iO b).toBitVec.toInt = b := iO_toInt (by omega) h4
  have e3 : (iO a ^^^ iO b).toBitVec = (iO a).toBitVec ^^^ (iO b).toBitVec := Int32.toBitVec_xor ..
  have m1 : (iO a).toBitVec.msb = decide (a < 0) := by rw [BitVec.msb_eq_toInt, e1]
  have m2 : (iO b).toBitVec.msb = false := by rw [BitVec.msb_eq_toInt, e2]; exact decide_eq_false (by omega)
  have m3 : (iO a ^^^ iO b).toBitVec.msb = decide (a < 0) := by rw [e3, BitVec.msb_xor, m1, m2, Bool.xor_false]
  rw [BitVec.msb_eq_toInt] at m3
  have m4 : ((iO a ^^^ iO b).toBitVec.toInt < 0) ↔ a < 0 := by
    constructor
    · intro h
      exact of_decide_eq_true (m3.symm.trans (decide_eq_true h))
    · intro h
      exact of_decide_eq_true (m3.trans (decide_eq_true h))
  have m5 : (0 ≤ iO a ^^^ iO b) ↔ 0 ≤ (iO a ^^^ iO b).toBitVec.toInt := Int32.le_iff_toInt_le
  rw [m5]
  omega
theorem tdiv_dvd {a b : Int} (hb : 0 < b) : a.tdiv b * b = a ↔ b ∣ a := by
  constructor
  · intro h
    exact ⟨a.tdiv b, by rw [Int.mul_comm]; exact h.symm⟩
  · rintro ⟨c, rfl⟩
    rw [Int.mul_tdiv_cancel_left c (by omega), Int.mul_comm]
theorem floor_t {a b : Int} (hb : 0 < b) (ha : a < 0) : a / b = if b ∣ a then a.tdiv b else a.tdiv b - 1 := by
  have h := Int.tdiv_eq_ediv (a := a) (b := b)
  by_cases hd : b ∣ a
  · rw [if_pos hd]
    rw [if_pos (Or.inr hd)] at h
    omega
  · rw [if_neg hd]
    rw [if_neg (by omega), Int.sign_eq_one_of_pos hb] at h
    omega
/-- Math.floorDiv, as an integer's division rounded down -/
theorem fdv_O {a b : Int} (h1 : -2147483647 ≤ a) (h2 : a < 2147483648) (h4 : b < 2147483648) (hb : 0 < b) : fdv (iO a) (iO b) = iO (a / b) := by
  have hq := iO_div h1 h2 (show -2147483648 ≤ b by omega) h4 (by omega)
  unfold fdv
  by_cases ha : 0 ≤ a
  · rw [if_pos ((xor_sign (by omega) h2 h4 hb).mpr ha), hq, Int.tdiv_eq_ediv_of_nonneg ha]
  · rw [if_neg (fun q => ha ((xor_sign (by omega) h2 h4 hb).mp q)), hq, iO_mul]
    have hc : (iO (a.tdiv b * b) = iO a) ↔ b ∣ a := by
      rw [← tdiv_dvd hb]
      have hm := Int.tmod_add_tdiv_mul a b
      have hm2 : -b < a.tmod b ∧ a.tmod b < b := ⟨by have := Int.lt_tmod_of_pos a hb; omega, Int.tmod_lt_of_pos a hb⟩
      constructor
      · intro h
        have hn : a.tmod b ≤ 0 := by
          have := Int.tmod_nonneg b (show 0 ≤ -a by omega)
          rw [Int.neg_tmod] at this
          omega
        rw [iO_eq (by omega) (by omega) (by omega) h2] at h
        exact h
      · intro h
        rw [h]
    rw [floor_t hb (by omega)]
    by_cases hd : b ∣ a
    · rw [if_pos (hc.mpr hd), if_pos hd]
    · rw [if_neg (fun q => hd (hc.mp q)), if_neg hd]
      show iO _ - iO 1 = _
      rw [iO_sub]
