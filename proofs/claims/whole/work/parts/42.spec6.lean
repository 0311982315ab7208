/-! the other steps keep it -/
theorem INV.same {q p : AS} {B : Nat} (h : INV q B) (hB : BI p) (c : ∀ k, (k = 1 ∨ k = 2 ∨ k = 3 ∨ 100 ≤ k) → cn p k = cn q k) (z : ∀ i, (i = 3 ∨ i = 4) → ∀ j k, zz p i j k = zz q i j k) : INV p B := by
  obtain ⟨-, hh, hI, hS, hbal⟩ := h
  have c1 := c 1 (by omega)
  have ct : ∀ t, cn p (100 + t) = cn q (100 + t) := fun t => c _ (by omega)
  have eL : lcn p = lcn q := by
    unfold lcn
    rw [c1]
    exact cntP_cong (fun j _ => by unfold liveP; rw [z 3 (by omega)])
  have eS : ∀ y, SG p y = SG q y := fun y => by
    unfold SG sgc
    rw [c1]
    exact smN_cg _ (fun j _ => by rw [ct]; exact cntP_cong (fun k _ => by unfold sgP; rw [z 4 (by omega)]))
  refine ⟨hB, fun t ht => ?_, fun t ht h7 => ?_, fun t ht k hk => ?_, by rw [c 2 (by omega), c 3 (by omega), eS, eS]; exact hbal⟩
  · rw [c1] at ht ⊢
    rw [ct, eL]
    exact hh t ht
  · rw [c1] at ht
    rw [z 3 (by omega)] at h7 ⊢
    exact hI t ht h7
  · rw [c1] at ht
    rw [ct] at hk
    rw [z 4 (by omega)]
    exact hS t ht k hk
theorem add_INV {q : AS} {B j : Nat} {t u : Int32} (h : INV q B) (hj : j < 4) (hok : okAdd q j t u) : INV (addQ q j t u) B := h.same (add_BI h.1 hj hok) (fun k hk => clk_cn q j _ _ (by omega)) (fun i hi j' k => clk_zz q j _ _ (by omega))
theorem fgt_INV {q : AS} {B j : Nat} (h : INV q B) (hj : j < 4) : INV (fgtQ q j) B := h.same (fgt_BI h.1 hj) (fun k hk => clk_cn q j _ _ (by omega)) (fun i hi j' k => clk_zz q j _ _ (by omega))
theorem set_INV {q : AS} {B k : Nat} {v : Int} (h : INV q B) (hv : (k = 0 → bd v 1 500) ∧ (k = 1 → bd v 1 16) ∧ (k = 2 → bd v 0 16) ∧ (k = 3 → bd v 1 9) ∧ (k = 4 → bd v 0 100)) : INV (zs q 0 0 k v) B := h.same (set_BI h.1 hv) (fun _ _ => rfl) (fun i hi j k' => by rw [zz_zs, if_neg (by omega)])
theorem rpt_INV {q : AS} {B j : Nat} {t x y : Int32} (h : INV q B) (hj : j < 4) (h4 : cn q 0 < 4) (ht : isTm t) (hx : isPl x) (hy : isPl y) : INV (rptQ q j t x y) B :=
  h.same (rep_BI h.1 h4 ⟨crt_bd h.1 hj (tm_bd ht), pl_bd hx, pl_bd hy⟩) (fun k hk => rep_cn q _ (by omega)) (fun i hi j' k => rep_zz q _ (by omega))
theorem clr_INV {q : AS} {B : Nat} (h : INV q B) : INV (cs q 0 0) B := h.same (clr_BI h.1) (fun k hk => by rw [cn_cs, if_neg (by omega)]) (fun _ _ _ _ => rfl)
/-- the beginning -/
def q00 : AS := (fun _ => 0, fun i _ k => if i = 0 then (if k = 0 then 20 else if k = 1 then 8 else if k = 2 then 4 else if k = 3 then 3 else 2) else 0)
theorem q00_INV : INV q00 1 := by
  refine ⟨⟨by decide, by decide, fun i _ => Nat.zero_le _, fun i _ h => absurd h (by show ¬ 1 ≤ 0; omega), fun i _ h => absurd h (by show ¬ 0 = 2; omega), fun r h => absurd h (Nat.not_lt_zero r), fun r h => absurd h (Nat.not_lt_zero r), fun r h => absurd h (Nat.not_lt_zero r), ⟨by decide, by decide⟩, ⟨by decide, by decide⟩, ⟨by decide, by decide⟩, ⟨by decide, by decide⟩, ⟨by decide, by decide⟩, by decide, fun r h => absurd h (Nat.not_lt_zero r)⟩, fun r h => absurd h (Nat.not_lt_zero r), fun r h => absurd h (Nat.not_lt_zero r), fun r h => absurd h (Nat.not_lt_zero r), rfl⟩
