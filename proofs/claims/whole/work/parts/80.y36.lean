/-! what each call does, as one relation of the state before, the code, the answer and the state behind -/
theorem nI_nn9 {j : Nat} (h : j < 2 ^ 31) : ¬ nI j < 0 := fun z => by
  rcases Nat.eq_zero_or_pos j with rfl | hp
  · exact absurd z (show ¬ ((nI 0) < 0) by decide)
  · exact absurd z (Int32.lt_asymm (nI_ltn hp h))
theorem sn_of {i : Int32} {j : Nat} (h : j < 4) (e : i = nI j) : isSn i := by
  rw [e]
  exact ⟨nI_nn9 (by omega), nI_ltn h (by decide)⟩
theorem tk_of {q : AS} (hB : BI q) {i : Int32} {j : Nat} (h : j < cn q 1) (e : i = nI j) : isTk q i := by
  have := hB.b1
  rw [e]
  exact ⟨nI_nn9 (by omega), Int32.not_le.mpr (nI_ltn h (by omega))⟩
theorem rp_of {q : AS} (hB : BI q) {i : Int32} {j : Nat} (h : j < cn q 0) (e : i = nI j) : isRp q i := by
  have := hB.b0
  rw [e]
  exact ⟨nI_nn9 (by omega), Int32.not_le.mpr (nI_ltn h (by omega))⟩

def R_addPair (q : AS) (i t u9 : Int32) (κ : Int32) (v : Int32) (q' : AS) : Prop := (κ = 0 ∧ ∃ j, j < 4 ∧ i = nI j ∧ okAdd q j t u9 ∧ q' = (addQ q j t u9) ∧ nI (cn (addQ q j t u9) (10 + j)) = v) ∨ (κ = 1 ∧ q' = q ∧ ¬ isSn i) ∨ (κ = 2 ∧ q' = q ∧ ∃ j, j < 4 ∧ i = nI j ∧ ¬ okAdd q j t u9)
theorem kc_addPair {S1 w w' : HS} {ad : AD} {q : AS} (hA : XA S1 ad (cn q 1)) (hV : XV S1 ad q) (i t u9 : Int32) {sv : HS → Int32 → HS} {r : Int32} (h : hP (fun r u => ∃ j, j < 4 ∧ i = nI j ∧ okAdd q j t u9 ∧ XA u ad (cn q 1) ∧ XV u ad (addQ q j t u9) ∧ nI (cn (addQ q j t u9) (10 + j)) = r) (fun E u => S1 = u ∧ ((E = eIO ∧ ¬ isSn i) ∨ (E = eIA ∧ ∃ j, j < 4 ∧ i = nI j ∧ ¬ okAdd q j t u9))) [eIO, eIA] S1 w sv r w') : ∃ (q' : AS) (v : Int32) (u : HS) (ad' : AD), R_addPair q i t u9 r v q' ∧ XA u ad' (cn q' 1) ∧ XV u ad' q' ∧ ad' 0 0 = ad 0 0 ∧ Cov S1 u w ∧ ((r = 0 ∧ sv (fr S1 u w) v = w') ∨ (¬ r = 0 ∧ fr S1 u w = w')) := by
  rcases h with ⟨rfl, x, u, ⟨j, g0, g1, g2, hXA, hXV, hval⟩, hc, hw⟩ | ⟨j9, E, hj, rfl, u, hx, hc, hw⟩
  · exact ⟨_, x, _, ad, Or.inl ⟨rfl, j, g0, g1, g2, rfl, hval⟩, (by rw [show cn (addQ q j t u9) 1 = cn q 1 from clk_cn q j _ _ (by omega)]; exact hXA), hXV, rfl, hc, Or.inl ⟨rfl, hw⟩⟩
  · match j9, hj with
    | 0, hj =>
      obtain rfl : eIO = E := Option.some.inj hj
      obtain ⟨rfl, hx⟩ := hx
      rcases hx with ⟨he, g0⟩ | ⟨he, -⟩
      · exact ⟨q, 0, _, ad, Or.inr (Or.inl ⟨rfl, rfl, g0⟩), hA, hV, rfl, hc, Or.inr ⟨by decide, hw⟩⟩
      · exact absurd he (by decide)
    | 1, hj =>
      obtain rfl : eIA = E := Option.some.inj hj
      obtain ⟨rfl, hx⟩ := hx
      rcases hx with ⟨he, -⟩ | ⟨he, j, g1, g2, g3⟩
      · exact absurd he (by decide)
      · exact ⟨q, 0, _, ad, Or.inr (Or.inr (⟨rfl, rfl, j, g1, g2, g3⟩)), hA, hV, rfl, hc, Or.inr ⟨by decide, hw⟩⟩
    | n9 + 2, hj => cases hj
theorem km_addPair {S2 u : HS} {am : AM} {q : AS} (hA : NA S2 am (cn q 1)) (hV : NV S2 am q) (i t u9 : Int32) {r : Int32} (h : ((∃ j, j < 4 ∧ i = nI j ∧ okAdd q j t u9 ∧ NA u am (cn q 1) ∧ NV u am (addQ q j t u9) ∧ hI u 61 (am 0) = 0 ∧ nI (cn (addQ q j t u9) (10 + j)) = r) ∨ (¬ isSn i ∧ FrN S2 u am ∧ hI u 61 (am 0) = 1) ∨ (∃ j, j < 4 ∧ i = nI j ∧ ¬ okAdd q j t u9 ∧ FrN S2 u am ∧ hI u 61 (am 0) = 2))) : ∃ (q' : AS) (am' : AM), R_addPair q i t u9 (hI u 61 (am 0)) r q' ∧ NA u am' (cn q' 1) ∧ NV u am' q' ∧ am' 0 = am 0 := by
  rcases h with ⟨j, g0, g1, g2, hXA, hXV, hk, hval⟩ | ⟨g0, hF, hk⟩ | ⟨j, g0, g1, g2, hF, hk⟩
  · exact ⟨_, am, Or.inl ⟨hk, j, g0, g1, g2, rfl, hval⟩, (by rw [show cn (addQ q j t u9) 1 = cn q 1 from clk_cn q j _ _ (by omega)]; exact hXA), hXV, rfl⟩
  · exact ⟨q, am, Or.inr (Or.inl ⟨hk, rfl, g0⟩), (hF.toA hA), (hF.toV hA hV), rfl⟩
  · exact ⟨q, am, Or.inr (Or.inr (⟨hk, rfl, j, g0, g1, g2⟩)), (hF.toA hA), (hF.toV hA hV), rfl⟩
theorem kf_addPair {q : AS} (hB : BI q) (i t u9 : Int32) {κ κ2 : Int32} {v v2 : Int32} {q' q2 : AS} (h : R_addPair q i t u9 κ v q') (h2 : R_addPair q i t u9 κ2 v2 q2) : κ = κ2 ∧ q' = q2 ∧ (κ = 0 → v = v2) := by
  have hb0 := hB.b0
  have hb1 := hB.b1
  rcases h with ⟨a0, ja, a1, a2, a3, a4, a5⟩ | ⟨a0, a1, a2⟩ | ⟨a0, a1, ja, a2, a3, a4⟩
  · rcases h2 with ⟨b0, jb, b1, b2, b3, b4, b5⟩ | ⟨b0, b1, b2⟩ | ⟨b0, b1, jb, b2, b3, b4⟩
    · have e_ja : ja = jb := nI_inj (a2.symm.trans b2) (by omega) (by omega)
      subst e_ja
      exact ⟨a0.trans b0.symm, a4.trans b4.symm, fun _ => a5.symm.trans b5⟩
    · exact absurd (sn_of a1 a2) b2
    · have e_ja : ja = jb := nI_inj (a2.symm.trans b3) (by omega) (by omega)
      subst e_ja
      exact absurd a3 b4
  · rcases h2 with ⟨b0, jb, b1, b2, b3, b4, b5⟩ | ⟨b0, b1, b2⟩ | ⟨b0, b1, jb, b2, b3, b4⟩
    · exact absurd (sn_of b1 b2) a2
    · exact ⟨a0.trans b0.symm, a1.trans b1.symm, fun z => absurd (a0.symm.trans z) (by decide)⟩
    · exact absurd (sn_of b2 b3) a2
  · rcases h2 with ⟨b0, jb, b1, b2, b3, b4, b5⟩ | ⟨b0, b1, b2⟩ | ⟨b0, b1, jb, b2, b3, b4⟩
    · have e_ja : ja = jb := nI_inj (a3.symm.trans b2) (by omega) (by omega)
      subst e_ja
      exact absurd b3 a4
    · exact absurd (sn_of a2 a3) b2
    · exact ⟨a0.trans b0.symm, a1.trans b1.symm, fun z => absurd (a0.symm.trans z) (by decide)⟩
theorem ki_addPair {q : AS} {B : Nat} (hI : INV q B) (i t u9 : Int32) {κ : Int32} {v : Int32} {q' : AS} (h : R_addPair q i t u9 κ v q') : INV q' B := by
  rcases h with ⟨a0, ja, a1, a2, a3, a4, a5⟩ | ⟨-, a1, -⟩ | ⟨-, a1, -⟩
  · rw [a4]; exact add_INV hI a1 a3
  · rw [a1]; exact hI
  · rw [a1]; exact hI
def R_forgetPairs (q : AS) (i : Int32) (κ : Int32) (v : Int32) (q' : AS) : Prop := (κ = 0 ∧ ∃ j, j < 4 ∧ i = nI j ∧ q' = (fgtQ q j) ∧ nI (cn q (10 + j)) = v) ∨ (κ = 1 ∧ q' = q ∧ ¬ isSn i)
theorem kc_forgetPairs {S1 w w' : HS} {ad : AD} {q : AS} (hA : XA S1 ad (cn q 1)) (hV : XV S1 ad q) (i : Int32) {sv : HS → Int32 → HS} {r : Int32} (h : hP (fun r u => ∃ j, j < 4 ∧ i = nI j ∧ XA u ad (cn q 1) ∧ XV u ad (fgtQ q j) ∧ nI (cn q (10 + j)) = r) (fun E u => E = eIO ∧ S1 = u ∧ ¬ isSn i) [eIO] S1 w sv r w') : ∃ (q' : AS) (v : Int32) (u : HS) (ad' : AD), R_forgetPairs q i r v q' ∧ XA u ad' (cn q' 1) ∧ XV u ad' q' ∧ ad' 0 0 = ad 0 0 ∧ Cov S1 u w ∧ ((r = 0 ∧ sv (fr S1 u w) v = w') ∨ (¬ r = 0 ∧ fr S1 u w = w')) := by
  rcases h with ⟨rfl, x, u, ⟨j, g0, g1, hXA, hXV, hval⟩, hc, hw⟩ | ⟨j9, E, hj, rfl, u, hx, hc, hw⟩
  · exact ⟨_, x, _, ad, Or.inl ⟨rfl, j, g0, g1, rfl, hval⟩, (by rw [show cn (fgtQ q j) 1 = cn q 1 from clk_cn q j _ _ (by omega)]; exact hXA), hXV, rfl, hc, Or.inl ⟨rfl, hw⟩⟩
  · match j9, hj with
    | 0, hj =>
      obtain rfl : eIO = E := Option.some.inj hj
      obtain ⟨-, rfl, g0⟩ := hx
      exact ⟨q, 0, _, ad, Or.inr (⟨rfl, rfl, g0⟩), hA, hV, rfl, hc, Or.inr ⟨by decide, hw⟩⟩
    | n9 + 1, hj => cases hj
theorem km_forgetPairs {S2 u : HS} {am : AM} {q : AS} (hA : NA S2 am (cn q 1)) (hV : NV S2 am q) (i : Int32) {r : Int32} (h : ((∃ j, j < 4 ∧ i = nI j ∧ NA u am (cn q 1) ∧ NV u am (fgtQ q j) ∧ hI u 61 (am 0) = 0 ∧ nI (cn q (10 + j)) = r) ∨ (¬ isSn i ∧ FrN S2 u am ∧ hI u 61 (am 0) = 1))) : ∃ (q' : AS) (am' : AM), R_forgetPairs q i (hI u 61 (am 0)) r q' ∧ NA u am' (cn q' 1) ∧ NV u am' q' ∧ am' 0 = am 0 := by
  rcases h with ⟨j, g0, g1, hXA, hXV, hk, hval⟩ | ⟨g0, hF, hk⟩
  · exact ⟨_, am, Or.inl ⟨hk, j, g0, g1, rfl, hval⟩, (by rw [show cn (fgtQ q j) 1 = cn q 1 from clk_cn q j _ _ (by omega)]; exact hXA), hXV, rfl⟩
  · exact ⟨q, am, Or.inr (⟨hk, rfl, g0⟩), (hF.toA hA), (hF.toV hA hV), rfl⟩
theorem kf_forgetPairs {q : AS} (hB : BI q) (i : Int32) {κ κ2 : Int32} {v v2 : Int32} {q' q2 : AS} (h : R_forgetPairs q i κ v q') (h2 : R_forgetPairs q i κ2 v2 q2) : κ = κ2 ∧ q' = q2 ∧ (κ = 0 → v = v2) := by
  have hb0 := hB.b0
  have hb1 := hB.b1
  rcases h with ⟨a0, ja, a1, a2, a3, a4⟩ | ⟨a0, a1, a2⟩
  · rcases h2 with ⟨b0, jb, b1, b2, b3, b4⟩ | ⟨b0, b1, b2⟩
    · have e_ja : ja = jb := nI_inj (a2.symm.trans b2) (by omega) (by omega)
      subst e_ja
      exact ⟨a0.trans b0.symm, a3.trans b3.symm, fun _ => a4.symm.trans b4⟩
    · exact absurd (sn_of a1 a2) b2
  · rcases h2 with ⟨b0, jb, b1, b2, b3, b4⟩ | ⟨b0, b1, b2⟩
    · exact absurd (sn_of b1 b2) a2
    · exact ⟨a0.trans b0.symm, a1.trans b1.symm, fun z => absurd (a0.symm.trans z) (by decide)⟩
theorem ki_forgetPairs {q : AS} {B : Nat} (hI : INV q B) (i : Int32) {κ : Int32} {v : Int32} {q' : AS} (h : R_forgetPairs q i κ v q') : INV q' B := by
  rcases h with ⟨a0, ja, a1, a2, a3, a4⟩ | ⟨-, a1, -⟩
  · rw [a3]; exact fgt_INV hI a1
  · rw [a1]; exact hI
def R_correctedTime (q : AS) (i t : Int32) (κ : Int32) (v : Int32) (q' : AS) : Prop := (κ = 0 ∧ ∃ j, j < 4 ∧ i = nI j ∧ isTm t ∧ q' = q ∧ iO (crt q j t.toInt) = v) ∨ (κ = 1 ∧ q' = q ∧ ¬ isSn i) ∨ (κ = 2 ∧ q' = q ∧ ∃ j, j < 4 ∧ i = nI j ∧ ¬ isTm t)
theorem kc_correctedTime {S1 w w' : HS} {ad : AD} {q : AS} (hA : XA S1 ad (cn q 1)) (hV : XV S1 ad q) (i t : Int32) {sv : HS → Int32 → HS} {r : Int32} (h : hP (fun r u => ∃ j, j < 4 ∧ i = nI j ∧ isTm t ∧ S1 = u ∧ iO (crt q j t.toInt) = r) (fun E u => S1 = u ∧ ((E = eIO ∧ ¬ isSn i) ∨ (E = eIA ∧ ∃ j, j < 4 ∧ i = nI j ∧ ¬ isTm t))) [eIO, eIA] S1 w sv r w') : ∃ (q' : AS) (v : Int32) (u : HS) (ad' : AD), R_correctedTime q i t r v q' ∧ XA u ad' (cn q' 1) ∧ XV u ad' q' ∧ ad' 0 0 = ad 0 0 ∧ Cov S1 u w ∧ ((r = 0 ∧ sv (fr S1 u w) v = w') ∨ (¬ r = 0 ∧ fr S1 u w = w')) := by
  rcases h with ⟨rfl, x, u, ⟨j, g0, g1, g2, rfl, hval⟩, hc, hw⟩ | ⟨j9, E, hj, rfl, u, hx, hc, hw⟩
  · exact ⟨_, x, _, ad, Or.inl ⟨rfl, j, g0, g1, g2, rfl, hval⟩, hA, hV, rfl, hc, Or.inl ⟨rfl, hw⟩⟩
  · match j9, hj with
    | 0, hj =>
      obtain rfl : eIO = E := Option.some.inj hj
      obtain ⟨rfl, hx⟩ := hx
      rcases hx with ⟨he, g0⟩ | ⟨he, -⟩
      · exact ⟨q, 0, _, ad, Or.inr (Or.inl ⟨rfl, rfl, g0⟩), hA, hV, rfl, hc, Or.inr ⟨by decide, hw⟩⟩
      · exact absurd he (by decide)
    | 1, hj =>
      obtain rfl : eIA = E := Option.some.inj hj
      obtain ⟨rfl, hx⟩ := hx
      rcases hx with ⟨he, -⟩ | ⟨he, j, g1, g2, g3⟩
      · exact absurd he (by decide)
      · exact ⟨q, 0, _, ad, Or.inr (Or.inr (⟨rfl, rfl, j, g1, g2, g3⟩)), hA, hV, rfl, hc, Or.inr ⟨by decide, hw⟩⟩
    | n9 + 2, hj => cases hj
theorem km_correctedTime {S2 u : HS} {am : AM} {q : AS} (hA : NA S2 am (cn q 1)) (hV : NV S2 am q) (i t : Int32) {r : Int32} (h : ((∃ j, j < 4 ∧ i = nI j ∧ isTm t ∧ FrN S2 u am ∧ hI u 61 (am 0) = 0 ∧ iO (crt q j t.toInt) = r) ∨ (¬ isSn i ∧ FrN S2 u am ∧ hI u 61 (am 0) = 1) ∨ (∃ j, j < 4 ∧ i = nI j ∧ ¬ isTm t ∧ FrN S2 u am ∧ hI u 61 (am 0) = 2))) : ∃ (q' : AS) (am' : AM), R_correctedTime q i t (hI u 61 (am 0)) r q' ∧ NA u am' (cn q' 1) ∧ NV u am' q' ∧ am' 0 = am 0 := by
  rcases h with ⟨j, g0, g1, g2, hF, hk, hval⟩ | ⟨g0, hF, hk⟩ | ⟨j, g0, g1, g2, hF, hk⟩
  · exact ⟨_, am, Or.inl ⟨hk, j, g0, g1, g2, rfl, hval⟩, (hF.toA hA), (hF.toV hA hV), rfl⟩
  · exact ⟨q, am, Or.inr (Or.inl ⟨hk, rfl, g0⟩), (hF.toA hA), (hF.toV hA hV), rfl⟩
  · exact ⟨q, am, Or.inr (Or.inr (⟨hk, rfl, j, g0, g1, g2⟩)), (hF.toA hA), (hF.toV hA hV), rfl⟩
theorem kf_correctedTime {q : AS} (hB : BI q) (i t : Int32) {κ κ2 : Int32} {v v2 : Int32} {q' q2 : AS} (h : R_correctedTime q i t κ v q') (h2 : R_correctedTime q i t κ2 v2 q2) : κ = κ2 ∧ q' = q2 ∧ (κ = 0 → v = v2) := by
  have hb0 := hB.b0
  have hb1 := hB.b1
  rcases h with ⟨a0, ja, a1, a2, a3, a4, a5⟩ | ⟨a0, a1, a2⟩ | ⟨a0, a1, ja, a2, a3, a4⟩
  · rcases h2 with ⟨b0, jb, b1, b2, b3, b4, b5⟩ | ⟨b0, b1, b2⟩ | ⟨b0, b1, jb, b2, b3, b4⟩
    · have e_ja : ja = jb := nI_inj (a2.symm.trans b2) (by omega) (by omega)
      subst e_ja
      exact ⟨a0.trans b0.symm, a4.trans b4.symm, fun _ => a5.symm.trans b5⟩
    · exact absurd (sn_of a1 a2) b2
    · have e_ja : ja = jb := nI_inj (a2.symm.trans b3) (by omega) (by omega)
      subst e_ja
      exact absurd a3 b4
  · rcases h2 with ⟨b0, jb, b1, b2, b3, b4, b5⟩ | ⟨b0, b1, b2⟩ | ⟨b0, b1, jb, b2, b3, b4⟩
    · exact absurd (sn_of b1 b2) a2
    · exact ⟨a0.trans b0.symm, a1.trans b1.symm, fun z => absurd (a0.symm.trans z) (by decide)⟩
    · exact absurd (sn_of b2 b3) a2
  · rcases h2 with ⟨b0, jb, b1, b2, b3, b4, b5⟩ | ⟨b0, b1, b2⟩ | ⟨b0, b1, jb, b2, b3, b4⟩
    · have e_ja : ja = jb := nI_inj (a3.symm.trans b2) (by omega) (by omega)
      subst e_ja
      exact absurd b3 a4
    · exact absurd (sn_of a2 a3) b2
    · exact ⟨a0.trans b0.symm, a1.trans b1.symm, fun z => absurd (a0.symm.trans z) (by decide)⟩
theorem ki_correctedTime {q : AS} {B : Nat} (hI : INV q B) (i t : Int32) {κ : Int32} {v : Int32} {q' : AS} (h : R_correctedTime q i t κ v q') : INV q' B := by
  rcases h with ⟨a0, ja, a1, a2, a3, a4, a5⟩ | ⟨-, a1, -⟩ | ⟨-, a1, -⟩
  · rw [a4]; exact hI
  · rw [a1]; exact hI
  · rw [a1]; exact hI
def R_setGate (q : AS) (x : Int32) (κ : Int32) (v : Int32) (q' : AS) : Prop := (κ = 0 ∧ isIn x 1 500 ∧ q' = (zs q 0 0 0 x.toInt) ∧ iO (zz q 0 0 0) = v) ∨ (κ = 1 ∧ q' = q ∧ ¬ isIn x 1 500)
theorem kc_setGate {S1 w w' : HS} {ad : AD} {q : AS} (hA : XA S1 ad (cn q 1)) (hV : XV S1 ad q) (x : Int32) {sv : HS → Int32 → HS} {r : Int32} (h : hP (fun r u => isIn x 1 500 ∧ XA u ad (cn q 1) ∧ XV u ad (zs q 0 0 0 x.toInt) ∧ iO (zz q 0 0 0) = r) (fun E u => E = eIA ∧ S1 = u ∧ ¬ isIn x 1 500) [eIA] S1 w sv r w') : ∃ (q' : AS) (v : Int32) (u : HS) (ad' : AD), R_setGate q x r v q' ∧ XA u ad' (cn q' 1) ∧ XV u ad' q' ∧ ad' 0 0 = ad 0 0 ∧ Cov S1 u w ∧ ((r = 0 ∧ sv (fr S1 u w) v = w') ∨ (¬ r = 0 ∧ fr S1 u w = w')) := by
  rcases h with ⟨rfl, x, u, ⟨g0, hXA, hXV, hval⟩, hc, hw⟩ | ⟨j9, E, hj, rfl, u, hx, hc, hw⟩
  · exact ⟨_, x, _, ad, Or.inl ⟨rfl, g0, rfl, hval⟩, hXA, hXV, rfl, hc, Or.inl ⟨rfl, hw⟩⟩
  · match j9, hj with
    | 0, hj =>
      obtain rfl : eIA = E := Option.some.inj hj
      obtain ⟨-, rfl, g0⟩ := hx
      exact ⟨q, 0, _, ad, Or.inr (⟨rfl, rfl, g0⟩), hA, hV, rfl, hc, Or.inr ⟨by decide, hw⟩⟩
    | n9 + 1, hj => cases hj
theorem km_setGate {S2 u : HS} {am : AM} {q : AS} (hA : NA S2 am (cn q 1)) (hV : NV S2 am q) (x : Int32) {r : Int32} (h : ((isIn x 1 500 ∧ NA u am (cn q 1) ∧ NV u am (zs q 0 0 0 x.toInt) ∧ hI u 61 (am 0) = 0 ∧ iO (zz q 0 0 0) = r) ∨ (¬ isIn x 1 500 ∧ FrN S2 u am ∧ hI u 61 (am 0) = 1))) : ∃ (q' : AS) (am' : AM), R_setGate q x (hI u 61 (am 0)) r q' ∧ NA u am' (cn q' 1) ∧ NV u am' q' ∧ am' 0 = am 0 := by
  rcases h with ⟨g0, hXA, hXV, hk, hval⟩ | ⟨g0, hF, hk⟩
  · exact ⟨_, am, Or.inl ⟨hk, g0, rfl, hval⟩, hXA, hXV, rfl⟩
  · exact ⟨q, am, Or.inr (⟨hk, rfl, g0⟩), (hF.toA hA), (hF.toV hA hV), rfl⟩
theorem kf_setGate {q : AS} (hB : BI q) (x : Int32) {κ κ2 : Int32} {v v2 : Int32} {q' q2 : AS} (h : R_setGate q x κ v q') (h2 : R_setGate q x κ2 v2 q2) : κ = κ2 ∧ q' = q2 ∧ (κ = 0 → v = v2) := by
  have hb0 := hB.b0
  have hb1 := hB.b1
  rcases h with ⟨a0, a1, a2, a3⟩ | ⟨a0, a1, a2⟩
  · rcases h2 with ⟨b0, b1, b2, b3⟩ | ⟨b0, b1, b2⟩
    · exact ⟨a0.trans b0.symm, a2.trans b2.symm, fun _ => a3.symm.trans b3⟩
    · exact absurd a1 b2
  · rcases h2 with ⟨b0, b1, b2, b3⟩ | ⟨b0, b1, b2⟩
    · exact absurd b1 a2
    · exact ⟨a0.trans b0.symm, a1.trans b1.symm, fun z => absurd (a0.symm.trans z) (by decide)⟩
theorem ki_setGate {q : AS} {B : Nat} (hI : INV q B) (x : Int32) {κ : Int32} {v : Int32} {q' : AS} (h : R_setGate q x κ v q') : INV q' B := by
  rcases h with ⟨a0, a1, a2, a3⟩ | ⟨-, a1, -⟩
  · rw [a2]; exact set_INV hI ⟨fun _ => isIn_bd a1, fun z => absurd z (by decide), fun z => absurd z (by decide), fun z => absurd z (by decide), fun z => absurd z (by decide)⟩
  · rw [a1]; exact hI
def R_setFilter (q : AS) (x y : Int32) (κ : Int32) (v : Int32) (q' : AS) : Prop := (κ = 0 ∧ (isIn x 1 16 ∧ isIn y 0 16) ∧ q' = (zs (zs q 0 0 1 x.toInt) 0 0 2 y.toInt) ∧ 100 * iO (zz q 0 0 1) + iO (zz q 0 0 2) = v) ∨ (κ = 1 ∧ q' = q ∧ ¬ (isIn x 1 16 ∧ isIn y 0 16))
theorem kc_setFilter {S1 w w' : HS} {ad : AD} {q : AS} (hA : XA S1 ad (cn q 1)) (hV : XV S1 ad q) (x y : Int32) {sv : HS → Int32 → HS} {r : Int32} (h : hP (fun r u => (isIn x 1 16 ∧ isIn y 0 16) ∧ XA u ad (cn q 1) ∧ XV u ad (zs (zs q 0 0 1 x.toInt) 0 0 2 y.toInt) ∧ 100 * iO (zz q 0 0 1) + iO (zz q 0 0 2) = r) (fun E u => E = eIA ∧ S1 = u ∧ ¬ (isIn x 1 16 ∧ isIn y 0 16)) [eIA] S1 w sv r w') : ∃ (q' : AS) (v : Int32) (u : HS) (ad' : AD), R_setFilter q x y r v q' ∧ XA u ad' (cn q' 1) ∧ XV u ad' q' ∧ ad' 0 0 = ad 0 0 ∧ Cov S1 u w ∧ ((r = 0 ∧ sv (fr S1 u w) v = w') ∨ (¬ r = 0 ∧ fr S1 u w = w')) := by
  rcases h with ⟨rfl, x, u, ⟨g0, hXA, hXV, hval⟩, hc, hw⟩ | ⟨j9, E, hj, rfl, u, hx, hc, hw⟩
  · exact ⟨_, x, _, ad, Or.inl ⟨rfl, g0, rfl, hval⟩, hXA, hXV, rfl, hc, Or.inl ⟨rfl, hw⟩⟩
  · match j9, hj with
    | 0, hj =>
      obtain rfl : eIA = E := Option.some.inj hj
      obtain ⟨-, rfl, g0⟩ := hx
      exact ⟨q, 0, _, ad, Or.inr (⟨rfl, rfl, g0⟩), hA, hV, rfl, hc, Or.inr ⟨by decide, hw⟩⟩
    | n9 + 1, hj => cases hj
theorem km_setFilter {S2 u : HS} {am : AM} {q : AS} (hA : NA S2 am (cn q 1)) (hV : NV S2 am q) (x y : Int32) {r : Int32} (h : (((isIn x 1 16 ∧ isIn y 0 16) ∧ NA u am (cn q 1) ∧ NV u am (zs (zs q 0 0 1 x.toInt) 0 0 2 y.toInt) ∧ hI u 61 (am 0) = 0 ∧ 100 * iO (zz q 0 0 1) + iO (zz q 0 0 2) = r) ∨ (¬ (isIn x 1 16 ∧ isIn y 0 16) ∧ FrN S2 u am ∧ hI u 61 (am 0) = 1))) : ∃ (q' : AS) (am' : AM), R_setFilter q x y (hI u 61 (am 0)) r q' ∧ NA u am' (cn q' 1) ∧ NV u am' q' ∧ am' 0 = am 0 := by
  rcases h with ⟨g0, hXA, hXV, hk, hval⟩ | ⟨g0, hF, hk⟩
  · exact ⟨_, am, Or.inl ⟨hk, g0, rfl, hval⟩, hXA, hXV, rfl⟩
  · exact ⟨q, am, Or.inr (⟨hk, rfl, g0⟩), (hF.toA hA), (hF.toV hA hV), rfl⟩
theorem kf_setFilter {q : AS} (hB : BI q) (x y : Int32) {κ κ2 : Int32} {v v2 : Int32} {q' q2 : AS} (h : R_setFilter q x y κ v q') (h2 : R_setFilter q x y κ2 v2 q2) : κ = κ2 ∧ q' = q2 ∧ (κ = 0 → v = v2) := by
  have hb0 := hB.b0
  have hb1 := hB.b1
  rcases h with ⟨a0, a1, a2, a3⟩ | ⟨a0, a1, a2⟩
  · rcases h2 with ⟨b0, b1, b2, b3⟩ | ⟨b0, b1, b2⟩
    · exact ⟨a0.trans b0.symm, a2.trans b2.symm, fun _ => a3.symm.trans b3⟩
    · exact absurd a1 b2
  · rcases h2 with ⟨b0, b1, b2, b3⟩ | ⟨b0, b1, b2⟩
    · exact absurd b1 a2
    · exact ⟨a0.trans b0.symm, a1.trans b1.symm, fun z => absurd (a0.symm.trans z) (by decide)⟩
theorem ki_setFilter {q : AS} {B : Nat} (hI : INV q B) (x y : Int32) {κ : Int32} {v : Int32} {q' : AS} (h : R_setFilter q x y κ v q') : INV q' B := by
  rcases h with ⟨a0, a1, a2, a3⟩ | ⟨-, a1, -⟩
  · rw [a2]; exact set_INV (set_INV hI ⟨fun z => absurd z (by decide), fun _ => isIn_bd a1.1, fun z => absurd z (by decide), fun z => absurd z (by decide), fun z => absurd z (by decide)⟩) ⟨fun z => absurd z (by decide), fun z => absurd z (by decide), fun _ => isIn_bd a1.2, fun z => absurd z (by decide), fun z => absurd z (by decide)⟩
  · rw [a1]; exact hI
def R_setLimit (q : AS) (x : Int32) (κ : Int32) (v : Int32) (q' : AS) : Prop := (κ = 0 ∧ isIn x 1 9 ∧ q' = (zs q 0 0 3 x.toInt) ∧ iO (zz q 0 0 3) = v) ∨ (κ = 1 ∧ q' = q ∧ ¬ isIn x 1 9)
theorem kc_setLimit {S1 w w' : HS} {ad : AD} {q : AS} (hA : XA S1 ad (cn q 1)) (hV : XV S1 ad q) (x : Int32) {sv : HS → Int32 → HS} {r : Int32} (h : hP (fun r u => isIn x 1 9 ∧ XA u ad (cn q 1) ∧ XV u ad (zs q 0 0 3 x.toInt) ∧ iO (zz q 0 0 3) = r) (fun E u => E = eIA ∧ S1 = u ∧ ¬ isIn x 1 9) [eIA] S1 w sv r w') : ∃ (q' : AS) (v : Int32) (u : HS) (ad' : AD), R_setLimit q x r v q' ∧ XA u ad' (cn q' 1) ∧ XV u ad' q' ∧ ad' 0 0 = ad 0 0 ∧ Cov S1 u w ∧ ((r = 0 ∧ sv (fr S1 u w) v = w') ∨ (¬ r = 0 ∧ fr S1 u w = w')) := by
  rcases h with ⟨rfl, x, u, ⟨g0, hXA, hXV, hval⟩, hc, hw⟩ | ⟨j9, E, hj, rfl, u, hx, hc, hw⟩
  · exact ⟨_, x, _, ad, Or.inl ⟨rfl, g0, rfl, hval⟩, hXA, hXV, rfl, hc, Or.inl ⟨rfl, hw⟩⟩
  · match j9, hj with
    | 0, hj =>
      obtain rfl : eIA = E := Option.some.inj hj
      obtain ⟨-, rfl, g0⟩ := hx
      exact ⟨q, 0, _, ad, Or.inr (⟨rfl, rfl, g0⟩), hA, hV, rfl, hc, Or.inr ⟨by decide, hw⟩⟩
    | n9 + 1, hj => cases hj
theorem km_setLimit {S2 u : HS} {am : AM} {q : AS} (hA : NA S2 am (cn q 1)) (hV : NV S2 am q) (x : Int32) {r : Int32} (h : ((isIn x 1 9 ∧ NA u am (cn q 1) ∧ NV u am (zs q 0 0 3 x.toInt) ∧ hI u 61 (am 0) = 0 ∧ iO (zz q 0 0 3) = r) ∨ (¬ isIn x 1 9 ∧ FrN S2 u am ∧ hI u 61 (am 0) = 1))) : ∃ (q' : AS) (am' : AM), R_setLimit q x (hI u 61 (am 0)) r q' ∧ NA u am' (cn q' 1) ∧ NV u am' q' ∧ am' 0 = am 0 := by
  rcases h with ⟨g0, hXA, hXV, hk, hval⟩ | ⟨g0, hF, hk⟩
  · exact ⟨_, am, Or.inl ⟨hk, g0, rfl, hval⟩, hXA, hXV, rfl⟩
  · exact ⟨q, am, Or.inr (⟨hk, rfl, g0⟩), (hF.toA hA), (hF.toV hA hV), rfl⟩
theorem kf_setLimit {q : AS} (hB : BI q) (x : Int32) {κ κ2 : Int32} {v v2 : Int32} {q' q2 : AS} (h : R_setLimit q x κ v q') (h2 : R_setLimit q x κ2 v2 q2) : κ = κ2 ∧ q' = q2 ∧ (κ = 0 → v = v2) := by
  have hb0 := hB.b0
  have hb1 := hB.b1
  rcases h with ⟨a0, a1, a2, a3⟩ | ⟨a0, a1, a2⟩
  · rcases h2 with ⟨b0, b1, b2, b3⟩ | ⟨b0, b1, b2⟩
    · exact ⟨a0.trans b0.symm, a2.trans b2.symm, fun _ => a3.symm.trans b3⟩
    · exact absurd a1 b2
  · rcases h2 with ⟨b0, b1, b2, b3⟩ | ⟨b0, b1, b2⟩
    · exact absurd b1 a2
    · exact ⟨a0.trans b0.symm, a1.trans b1.symm, fun z => absurd (a0.symm.trans z) (by decide)⟩
theorem ki_setLimit {q : AS} {B : Nat} (hI : INV q B) (x : Int32) {κ : Int32} {v : Int32} {q' : AS} (h : R_setLimit q x κ v q') : INV q' B := by
  rcases h with ⟨a0, a1, a2, a3⟩ | ⟨-, a1, -⟩
  · rw [a2]; exact set_INV hI ⟨fun z => absurd z (by decide), fun z => absurd z (by decide), fun z => absurd z (by decide), fun _ => isIn_bd a1, fun z => absurd z (by decide)⟩
  · rw [a1]; exact hI
def R_setNearness (q : AS) (x : Int32) (κ : Int32) (v : Int32) (q' : AS) : Prop := (κ = 0 ∧ isIn x 0 100 ∧ q' = (zs q 0 0 4 x.toInt) ∧ iO (zz q 0 0 4) = v) ∨ (κ = 1 ∧ q' = q ∧ ¬ isIn x 0 100)
theorem kc_setNearness {S1 w w' : HS} {ad : AD} {q : AS} (hA : XA S1 ad (cn q 1)) (hV : XV S1 ad q) (x : Int32) {sv : HS → Int32 → HS} {r : Int32} (h : hP (fun r u => isIn x 0 100 ∧ XA u ad (cn q 1) ∧ XV u ad (zs q 0 0 4 x.toInt) ∧ iO (zz q 0 0 4) = r) (fun E u => E = eIA ∧ S1 = u ∧ ¬ isIn x 0 100) [eIA] S1 w sv r w') : ∃ (q' : AS) (v : Int32) (u : HS) (ad' : AD), R_setNearness q x r v q' ∧ XA u ad' (cn q' 1) ∧ XV u ad' q' ∧ ad' 0 0 = ad 0 0 ∧ Cov S1 u w ∧ ((r = 0 ∧ sv (fr S1 u w) v = w') ∨ (¬ r = 0 ∧ fr S1 u w = w')) := by
  rcases h with ⟨rfl, x, u, ⟨g0, hXA, hXV, hval⟩, hc, hw⟩ | ⟨j9, E, hj, rfl, u, hx, hc, hw⟩
  · exact ⟨_, x, _, ad, Or.inl ⟨rfl, g0, rfl, hval⟩, hXA, hXV, rfl, hc, Or.inl ⟨rfl, hw⟩⟩
  · match j9, hj with
    | 0, hj =>
      obtain rfl : eIA = E := Option.some.inj hj
      obtain ⟨-, rfl, g0⟩ := hx
      exact ⟨q, 0, _, ad, Or.inr (⟨rfl, rfl, g0⟩), hA, hV, rfl, hc, Or.inr ⟨by decide, hw⟩⟩
    | n9 + 1, hj => cases hj
theorem km_setNearness {S2 u : HS} {am : AM} {q : AS} (hA : NA S2 am (cn q 1)) (hV : NV S2 am q) (x : Int32) {r : Int32} (h : ((isIn x 0 100 ∧ NA u am (cn q 1) ∧ NV u am (zs q 0 0 4 x.toInt) ∧ hI u 61 (am 0) = 0 ∧ iO (zz q 0 0 4) = r) ∨ (¬ isIn x 0 100 ∧ FrN S2 u am ∧ hI u 61 (am 0) = 1))) : ∃ (q' : AS) (am' : AM), R_setNearness q x (hI u 61 (am 0)) r q' ∧ NA u am' (cn q' 1) ∧ NV u am' q' ∧ am' 0 = am 0 := by
  rcases h with ⟨g0, hXA, hXV, hk, hval⟩ | ⟨g0, hF, hk⟩
  · exact ⟨_, am, Or.inl ⟨hk, g0, rfl, hval⟩, hXA, hXV, rfl⟩
  · exact ⟨q, am, Or.inr (⟨hk, rfl, g0⟩), (hF.toA hA), (hF.toV hA hV), rfl⟩
theorem kf_setNearness {q : AS} (hB : BI q) (x : Int32) {κ κ2 : Int32} {v v2 : Int32} {q' q2 : AS} (h : R_setNearness q x κ v q') (h2 : R_setNearness q x κ2 v2 q2) : κ = κ2 ∧ q' = q2 ∧ (κ = 0 → v = v2) := by
  have hb0 := hB.b0
  have hb1 := hB.b1
  rcases h with ⟨a0, a1, a2, a3⟩ | ⟨a0, a1, a2⟩
  · rcases h2 with ⟨b0, b1, b2, b3⟩ | ⟨b0, b1, b2⟩
    · exact ⟨a0.trans b0.symm, a2.trans b2.symm, fun _ => a3.symm.trans b3⟩
    · exact absurd a1 b2
  · rcases h2 with ⟨b0, b1, b2, b3⟩ | ⟨b0, b1, b2⟩
    · exact absurd b1 a2
    · exact ⟨a0.trans b0.symm, a1.trans b1.symm, fun z => absurd (a0.symm.trans z) (by decide)⟩
theorem ki_setNearness {q : AS} {B : Nat} (hI : INV q B) (x : Int32) {κ : Int32} {v : Int32} {q' : AS} (h : R_setNearness q x κ v q') : INV q' B := by
  rcases h with ⟨a0, a1, a2, a3⟩ | ⟨-, a1, -⟩
  · rw [a2]; exact set_INV hI ⟨fun z => absurd z (by decide), fun z => absurd z (by decide), fun z => absurd z (by decide), fun z => absurd z (by decide), fun _ => isIn_bd a1⟩
  · rw [a1]; exact hI
def R_report (q : AS) (i t x y : Int32) (κ : Int32) (v : Int32) (q' : AS) : Prop := (κ = 0 ∧ ∃ j, j < 4 ∧ i = nI j ∧ (isTm t ∧ isPl x ∧ isPl y) ∧ cn q 0 < 4 ∧ q' = (rptQ q j t x y) ∧ nI (cn q 0) = v) ∨ (κ = 1 ∧ q' = q ∧ ¬ isSn i) ∨ (κ = 2 ∧ q' = q ∧ ∃ j, j < 4 ∧ i = nI j ∧ ¬ (isTm t ∧ isPl x ∧ isPl y)) ∨ (κ = 3 ∧ q' = q ∧ ∃ j, j < 4 ∧ i = nI j ∧ (isTm t ∧ isPl x ∧ isPl y) ∧ cn q 0 = 4)
theorem kc_report {S1 w w' : HS} {ad : AD} {q : AS} (hA : XA S1 ad (cn q 1)) (hV : XV S1 ad q) (i t x y : Int32) {sv : HS → Int32 → HS} {r : Int32} (h : hP (fun r u => ∃ j, j < 4 ∧ i = nI j ∧ (isTm t ∧ isPl x ∧ isPl y) ∧ cn q 0 < 4 ∧ XA u ad (cn q 1) ∧ XV u ad (rptQ q j t x y) ∧ nI (cn q 0) = r) (fun E u => S1 = u ∧ ((E = eIO ∧ ¬ isSn i) ∨ (E = eIA ∧ ∃ j, j < 4 ∧ i = nI j ∧ ¬ (isTm t ∧ isPl x ∧ isPl y)) ∨ (E = eIS ∧ ∃ j, j < 4 ∧ i = nI j ∧ (isTm t ∧ isPl x ∧ isPl y) ∧ cn q 0 = 4))) [eIO, eIA, eIS] S1 w sv r w') : ∃ (q' : AS) (v : Int32) (u : HS) (ad' : AD), R_report q i t x y r v q' ∧ XA u ad' (cn q' 1) ∧ XV u ad' q' ∧ ad' 0 0 = ad 0 0 ∧ Cov S1 u w ∧ ((r = 0 ∧ sv (fr S1 u w) v = w') ∨ (¬ r = 0 ∧ fr S1 u w = w')) := by
  rcases h with ⟨rfl, x, u, ⟨j, g0, g1, g2, g3, hXA, hXV, hval⟩, hc, hw⟩ | ⟨j9, E, hj, rfl, u, hx, hc, hw⟩
  · exact ⟨_, x, _, ad, Or.inl ⟨rfl, j, g0, g1, g2, g3, rfl, hval⟩, hXA, hXV, rfl, hc, Or.inl ⟨rfl, hw⟩⟩
  · match j9, hj with
    | 0, hj =>
      obtain rfl : eIO = E := Option.some.inj hj
      obtain ⟨rfl, hx⟩ := hx
      rcases hx with ⟨he, g0⟩ | ⟨he, -⟩ | ⟨he, -⟩
      · exact ⟨q, 0, _, ad, Or.inr (Or.inl ⟨rfl, rfl, g0⟩), hA, hV, rfl, hc, Or.inr ⟨by decide, hw⟩⟩
      · exact absurd he (by decide)
      · exact absurd he (by decide)
    | 1, hj =>
      obtain rfl : eIA = E := Option.some.inj hj
      obtain ⟨rfl, hx⟩ := hx
      rcases hx with ⟨he, -⟩ | ⟨he, j, g1, g2, g3⟩ | ⟨he, -⟩
      · exact absurd he (by decide)
      · exact ⟨q, 0, _, ad, Or.inr (Or.inr (Or.inl ⟨rfl, rfl, j, g1, g2, g3⟩)), hA, hV, rfl, hc, Or.inr ⟨by decide, hw⟩⟩
      · exact absurd he (by decide)
    | 2, hj =>
      obtain rfl : eIS = E := Option.some.inj hj
      obtain ⟨rfl, hx⟩ := hx
      rcases hx with ⟨he, -⟩ | ⟨he, -⟩ | ⟨he, j, g1, g2, g3, g4⟩
      · exact absurd he (by decide)
      · exact absurd he (by decide)
      · exact ⟨q, 0, _, ad, Or.inr (Or.inr (Or.inr (⟨rfl, rfl, j, g1, g2, g3, g4⟩))), hA, hV, rfl, hc, Or.inr ⟨by decide, hw⟩⟩
    | n9 + 3, hj => cases hj
theorem km_report {S2 u : HS} {am : AM} {q : AS} (hA : NA S2 am (cn q 1)) (hV : NV S2 am q) (i t x y : Int32) {r : Int32} (h : ((∃ j, j < 4 ∧ i = nI j ∧ (isTm t ∧ isPl x ∧ isPl y) ∧ cn q 0 < 4 ∧ NA u am (cn q 1) ∧ NV u am (rptQ q j t x y) ∧ hI u 61 (am 0) = 0 ∧ nI (cn q 0) = r) ∨ (¬ isSn i ∧ FrN S2 u am ∧ hI u 61 (am 0) = 1) ∨ (∃ j, j < 4 ∧ i = nI j ∧ ¬ (isTm t ∧ isPl x ∧ isPl y) ∧ FrN S2 u am ∧ hI u 61 (am 0) = 2) ∨ (∃ j, j < 4 ∧ i = nI j ∧ (isTm t ∧ isPl x ∧ isPl y) ∧ cn q 0 = 4 ∧ FrN S2 u am ∧ hI u 61 (am 0) = 3))) : ∃ (q' : AS) (am' : AM), R_report q i t x y (hI u 61 (am 0)) r q' ∧ NA u am' (cn q' 1) ∧ NV u am' q' ∧ am' 0 = am 0 := by
  rcases h with ⟨j, g0, g1, g2, g3, hXA, hXV, hk, hval⟩ | ⟨g0, hF, hk⟩ | ⟨j, g0, g1, g2, hF, hk⟩ | ⟨j, g0, g1, g2, g3, hF, hk⟩
  · exact ⟨_, am, Or.inl ⟨hk, j, g0, g1, g2, g3, rfl, hval⟩, hXA, hXV, rfl⟩
  · exact ⟨q, am, Or.inr (Or.inl ⟨hk, rfl, g0⟩), (hF.toA hA), (hF.toV hA hV), rfl⟩
  · exact ⟨q, am, Or.inr (Or.inr (Or.inl ⟨hk, rfl, j, g0, g1, g2⟩)), (hF.toA hA), (hF.toV hA hV), rfl⟩
  · exact ⟨q, am, Or.inr (Or.inr (Or.inr (⟨hk, rfl, j, g0, g1, g2, g3⟩))), (hF.toA hA), (hF.toV hA hV), rfl⟩
theorem kf_report {q : AS} (hB : BI q) (i t x y : Int32) {κ κ2 : Int32} {v v2 : Int32} {q' q2 : AS} (h : R_report q i t x y κ v q') (h2 : R_report q i t x y κ2 v2 q2) : κ = κ2 ∧ q' = q2 ∧ (κ = 0 → v = v2) := by
  have hb0 := hB.b0
  have hb1 := hB.b1
  rcases h with ⟨a0, ja, a1, a2, a3, a4, a5, a6⟩ | ⟨a0, a1, a2⟩ | ⟨a0, a1, ja, a2, a3, a4⟩ | ⟨a0, a1, ja, a2, a3, a4, a5⟩
  · rcases h2 with ⟨b0, jb, b1, b2, b3, b4, b5, b6⟩ | ⟨b0, b1, b2⟩ | ⟨b0, b1, jb, b2, b3, b4⟩ | ⟨b0, b1, jb, b2, b3, b4, b5⟩
    · have e_ja : ja = jb := nI_inj (a2.symm.trans b2) (by omega) (by omega)
      subst e_ja
      exact ⟨a0.trans b0.symm, a5.trans b5.symm, fun _ => a6.symm.trans b6⟩
    · exact absurd (sn_of a1 a2) b2
    · have e_ja : ja = jb := nI_inj (a2.symm.trans b3) (by omega) (by omega)
      subst e_ja
      exact absurd a3 b4
    · have e_ja : ja = jb := nI_inj (a2.symm.trans b3) (by omega) (by omega)
      subst e_ja
      omega
  · rcases h2 with ⟨b0, jb, b1, b2, b3, b4, b5, b6⟩ | ⟨b0, b1, b2⟩ | ⟨b0, b1, jb, b2, b3, b4⟩ | ⟨b0, b1, jb, b2, b3, b4, b5⟩
    · exact absurd (sn_of b1 b2) a2
    · exact ⟨a0.trans b0.symm, a1.trans b1.symm, fun z => absurd (a0.symm.trans z) (by decide)⟩
    · exact absurd (sn_of b2 b3) a2
    · exact absurd (sn_of b2 b3) a2
  · rcases h2 with ⟨b0, jb, b1, b2, b3, b4, b5, b6⟩ | ⟨b0, b1, b2⟩ | ⟨b0, b1, jb, b2, b3, b4⟩ | ⟨b0, b1, jb, b2, b3, b4, b5⟩
    · have e_ja : ja = jb := nI_inj (a3.symm.trans b2) (by omega) (by omega)
      subst e_ja
      exact absurd b3 a4
    · exact absurd (sn_of a2 a3) b2
    · exact ⟨a0.trans b0.symm, a1.trans b1.symm, fun z => absurd (a0.symm.trans z) (by decide)⟩
    · have e_ja : ja = jb := nI_inj (a3.symm.trans b3) (by omega) (by omega)
      subst e_ja
      exact absurd b4 a4
  · rcases h2 with ⟨b0, jb, b1, b2, b3, b4, b5, b6⟩ | ⟨b0, b1, b2⟩ | ⟨b0, b1, jb, b2, b3, b4⟩ | ⟨b0, b1, jb, b2, b3, b4, b5⟩
    · have e_ja : ja = jb := nI_inj (a3.symm.trans b2) (by omega) (by omega)
      subst e_ja
      omega
    · exact absurd (sn_of a2 a3) b2
    · have e_ja : ja = jb := nI_inj (a3.symm.trans b3) (by omega) (by omega)
      subst e_ja
      exact absurd a4 b4
    · exact ⟨a0.trans b0.symm, a1.trans b1.symm, fun z => absurd (a0.symm.trans z) (by decide)⟩
theorem ki_report {q : AS} {B : Nat} (hI : INV q B) (i t x y : Int32) {κ : Int32} {v : Int32} {q' : AS} (h : R_report q i t x y κ v q') : INV q' B := by
  rcases h with ⟨a0, ja, a1, a2, a3, a4, a5, a6⟩ | ⟨-, a1, -⟩ | ⟨-, a1, -⟩ | ⟨-, a1, -⟩
  · rw [a5]; exact rpt_INV hI a1 a4 a3.1 a3.2.1 a3.2.2
  · rw [a1]; exact hI
  · rw [a1]; exact hI
  · rw [a1]; exact hI
def R_distance (q : AS) (i t : Int32) (κ : Int32) (v : Int64) (q' : AS) : Prop := (κ = 0 ∧ ∃ k, k < cn q 0 ∧ i = nI k ∧ ∃ j, j < cn q 1 ∧ t = nI j ∧ zz q 3 j 7 = 0 ∧ q' = q ∧ lO (dst q k j) = v) ∨ (κ = 1 ∧ q' = q ∧ ¬ isRp q i) ∨ (κ = 2 ∧ q' = q ∧ (∃ k, k < cn q 0 ∧ i = nI k) ∧ ¬ isLv q t)
theorem kc_distance {S1 w w' : HS} {ad : AD} {q : AS} (hA : XA S1 ad (cn q 1)) (hV : XV S1 ad q) (i t : Int32) {sv : HS → Int64 → HS} {r : Int32} (h : hP (fun r u => ∃ k, k < cn q 0 ∧ i = nI k ∧ ∃ j, j < cn q 1 ∧ t = nI j ∧ zz q 3 j 7 = 0 ∧ S1 = u ∧ lO (dst q k j) = r) (fun E u => S1 = u ∧ ((E = eIO ∧ ¬ isRp q i) ∨ (E = eNE ∧ (∃ k, k < cn q 0 ∧ i = nI k) ∧ ¬ isLv q t))) [eIO, eNE] S1 w sv r w') : ∃ (q' : AS) (v : Int64) (u : HS) (ad' : AD), R_distance q i t r v q' ∧ XA u ad' (cn q' 1) ∧ XV u ad' q' ∧ ad' 0 0 = ad 0 0 ∧ Cov S1 u w ∧ ((r = 0 ∧ sv (fr S1 u w) v = w') ∨ (¬ r = 0 ∧ fr S1 u w = w')) := by
  rcases h with ⟨rfl, x, u, ⟨k, g0, g1, j, g2, g3, g4, rfl, hval⟩, hc, hw⟩ | ⟨j9, E, hj, rfl, u, hx, hc, hw⟩
  · exact ⟨_, x, _, ad, Or.inl ⟨rfl, k, g0, g1, j, g2, g3, g4, rfl, hval⟩, hA, hV, rfl, hc, Or.inl ⟨rfl, hw⟩⟩
  · match j9, hj with
    | 0, hj =>
      obtain rfl : eIO = E := Option.some.inj hj
      obtain ⟨rfl, hx⟩ := hx
      rcases hx with ⟨he, g0⟩ | ⟨he, -⟩
      · exact ⟨q, 0, _, ad, Or.inr (Or.inl ⟨rfl, rfl, g0⟩), hA, hV, rfl, hc, Or.inr ⟨by decide, hw⟩⟩
      · exact absurd he (by decide)
    | 1, hj =>
      obtain rfl : eNE = E := Option.some.inj hj
      obtain ⟨rfl, hx⟩ := hx
      rcases hx with ⟨he, -⟩ | ⟨he, g0, g1⟩
      · exact absurd he (by decide)
      · exact ⟨q, 0, _, ad, Or.inr (Or.inr (⟨rfl, rfl, g0, g1⟩)), hA, hV, rfl, hc, Or.inr ⟨by decide, hw⟩⟩
    | n9 + 2, hj => cases hj
theorem km_distance {S2 u : HS} {am : AM} {q : AS} (hA : NA S2 am (cn q 1)) (hV : NV S2 am q) (i t : Int32) {r : Int64} (h : ((∃ k, k < cn q 0 ∧ i = nI k ∧ ∃ j, j < cn q 1 ∧ t = nI j ∧ zz q 3 j 7 = 0 ∧ FrN S2 u am ∧ hI u 61 (am 0) = 0 ∧ lO (dst q k j) = r) ∨ (¬ isRp q i ∧ FrN S2 u am ∧ hI u 61 (am 0) = 1) ∨ ((∃ k, k < cn q 0 ∧ i = nI k) ∧ ¬ isLv q t ∧ FrN S2 u am ∧ hI u 61 (am 0) = 2))) : ∃ (q' : AS) (am' : AM), R_distance q i t (hI u 61 (am 0)) r q' ∧ NA u am' (cn q' 1) ∧ NV u am' q' ∧ am' 0 = am 0 := by
  rcases h with ⟨k, g0, g1, j, g2, g3, g4, hF, hk, hval⟩ | ⟨g0, hF, hk⟩ | ⟨g0, g1, hF, hk⟩
  · exact ⟨_, am, Or.inl ⟨hk, k, g0, g1, j, g2, g3, g4, rfl, hval⟩, (hF.toA hA), (hF.toV hA hV), rfl⟩
  · exact ⟨q, am, Or.inr (Or.inl ⟨hk, rfl, g0⟩), (hF.toA hA), (hF.toV hA hV), rfl⟩
  · exact ⟨q, am, Or.inr (Or.inr (⟨hk, rfl, g0, g1⟩)), (hF.toA hA), (hF.toV hA hV), rfl⟩
theorem kf_distance {q : AS} (hB : BI q) (i t : Int32) {κ κ2 : Int32} {v v2 : Int64} {q' q2 : AS} (h : R_distance q i t κ v q') (h2 : R_distance q i t κ2 v2 q2) : κ = κ2 ∧ q' = q2 ∧ (κ = 0 → v = v2) := by
  have hb0 := hB.b0
  have hb1 := hB.b1
  rcases h with ⟨a0, ka, a1, a2, ja, a3, a4, a5, a6, a7⟩ | ⟨a0, a1, a2⟩ | ⟨a0, a1, a2, a3⟩
  · rcases h2 with ⟨b0, kb, b1, b2, jb, b3, b4, b5, b6, b7⟩ | ⟨b0, b1, b2⟩ | ⟨b0, b1, b2, b3⟩
    · have e_ka : ka = kb := nI_inj (a2.symm.trans b2) (by omega) (by omega)
      subst e_ka
      have e_ja : ja = jb := nI_inj (a4.symm.trans b4) (by omega) (by omega)
      subst e_ja
      exact ⟨a0.trans b0.symm, a6.trans b6.symm, fun _ => a7.symm.trans b7⟩
    · exact absurd (rp_of hB a1 a2) b2
    · exact absurd ⟨ja, a3, a4, a5⟩ b3
  · rcases h2 with ⟨b0, kb, b1, b2, jb, b3, b4, b5, b6, b7⟩ | ⟨b0, b1, b2⟩ | ⟨b0, b1, b2, b3⟩
    · exact absurd (rp_of hB b1 b2) a2
    · exact ⟨a0.trans b0.symm, a1.trans b1.symm, fun z => absurd (a0.symm.trans z) (by decide)⟩
    · exact absurd (b2.elim fun k9 z9 => rp_of hB z9.1 z9.2) a2
  · rcases h2 with ⟨b0, kb, b1, b2, jb, b3, b4, b5, b6, b7⟩ | ⟨b0, b1, b2⟩ | ⟨b0, b1, b2, b3⟩
    · exact absurd ⟨jb, b3, b4, b5⟩ a3
    · exact absurd (a2.elim fun k9 z9 => rp_of hB z9.1 z9.2) b2
    · exact ⟨a0.trans b0.symm, a1.trans b1.symm, fun z => absurd (a0.symm.trans z) (by decide)⟩
theorem ki_distance {q : AS} {B : Nat} (hI : INV q B) (i t : Int32) {κ : Int32} {v : Int64} {q' : AS} (h : R_distance q i t κ v q') : INV q' B := by
  rcases h with ⟨a0, ka, a1, a2, ja, a3, a4, a5, a6, a7⟩ | ⟨-, a1, -⟩ | ⟨-, a1, -⟩
  · rw [a6]; exact hI
  · rw [a1]; exact hI
  · rw [a1]; exact hI
def R_canTake (q : AS) (i t : Int32) (κ : Int32) (v : Int32) (q' : AS) : Prop := (κ = 0 ∧ ∃ k, k < cn q 0 ∧ i = nI k ∧ ∃ j, j < cn q 1 ∧ t = nI j ∧ zz q 3 j 7 = 0 ∧ q' = q ∧ bI (0 ≤ ctk q k j) = v) ∨ (κ = 1 ∧ q' = q ∧ ¬ isRp q i) ∨ (κ = 2 ∧ q' = q ∧ (∃ k, k < cn q 0 ∧ i = nI k) ∧ ¬ isLv q t)
theorem kc_canTake {S1 w w' : HS} {ad : AD} {q : AS} (hA : XA S1 ad (cn q 1)) (hV : XV S1 ad q) (i t : Int32) {sv : HS → Int32 → HS} {r : Int32} (h : hP (fun r u => ∃ k, k < cn q 0 ∧ i = nI k ∧ ∃ j, j < cn q 1 ∧ t = nI j ∧ zz q 3 j 7 = 0 ∧ S1 = u ∧ bI (0 ≤ ctk q k j) = r) (fun E u => S1 = u ∧ ((E = eIO ∧ ¬ isRp q i) ∨ (E = eNE ∧ (∃ k, k < cn q 0 ∧ i = nI k) ∧ ¬ isLv q t))) [eIO, eNE] S1 w sv r w') : ∃ (q' : AS) (v : Int32) (u : HS) (ad' : AD), R_canTake q i t r v q' ∧ XA u ad' (cn q' 1) ∧ XV u ad' q' ∧ ad' 0 0 = ad 0 0 ∧ Cov S1 u w ∧ ((r = 0 ∧ sv (fr S1 u w) v = w') ∨ (¬ r = 0 ∧ fr S1 u w = w')) := by
  rcases h with ⟨rfl, x, u, ⟨k, g0, g1, j, g2, g3, g4, rfl, hval⟩, hc, hw⟩ | ⟨j9, E, hj, rfl, u, hx, hc, hw⟩
  · exact ⟨_, x, _, ad, Or.inl ⟨rfl, k, g0, g1, j, g2, g3, g4, rfl, hval⟩, hA, hV, rfl, hc, Or.inl ⟨rfl, hw⟩⟩
  · match j9, hj with
    | 0, hj =>
      obtain rfl : eIO = E := Option.some.inj hj
      obtain ⟨rfl, hx⟩ := hx
      rcases hx with ⟨he, g0⟩ | ⟨he, -⟩
      · exact ⟨q, 0, _, ad, Or.inr (Or.inl ⟨rfl, rfl, g0⟩), hA, hV, rfl, hc, Or.inr ⟨by decide, hw⟩⟩
      · exact absurd he (by decide)
    | 1, hj =>
      obtain rfl : eNE = E := Option.some.inj hj
      obtain ⟨rfl, hx⟩ := hx
      rcases hx with ⟨he, -⟩ | ⟨he, g0, g1⟩
      · exact absurd he (by decide)
      · exact ⟨q, 0, _, ad, Or.inr (Or.inr (⟨rfl, rfl, g0, g1⟩)), hA, hV, rfl, hc, Or.inr ⟨by decide, hw⟩⟩
    | n9 + 2, hj => cases hj
theorem km_canTake {S2 u : HS} {am : AM} {q : AS} (hA : NA S2 am (cn q 1)) (hV : NV S2 am q) (i t : Int32) {r : Int32} (h : ((∃ k, k < cn q 0 ∧ i = nI k ∧ ∃ j, j < cn q 1 ∧ t = nI j ∧ zz q 3 j 7 = 0 ∧ FrN S2 u am ∧ hI u 61 (am 0) = 0 ∧ bI (0 ≤ ctk q k j) = r) ∨ (¬ isRp q i ∧ FrN S2 u am ∧ hI u 61 (am 0) = 1) ∨ ((∃ k, k < cn q 0 ∧ i = nI k) ∧ ¬ isLv q t ∧ FrN S2 u am ∧ hI u 61 (am 0) = 2))) : ∃ (q' : AS) (am' : AM), R_canTake q i t (hI u 61 (am 0)) r q' ∧ NA u am' (cn q' 1) ∧ NV u am' q' ∧ am' 0 = am 0 := by
  rcases h with ⟨k, g0, g1, j, g2, g3, g4, hF, hk, hval⟩ | ⟨g0, hF, hk⟩ | ⟨g0, g1, hF, hk⟩
  · exact ⟨_, am, Or.inl ⟨hk, k, g0, g1, j, g2, g3, g4, rfl, hval⟩, (hF.toA hA), (hF.toV hA hV), rfl⟩
  · exact ⟨q, am, Or.inr (Or.inl ⟨hk, rfl, g0⟩), (hF.toA hA), (hF.toV hA hV), rfl⟩
  · exact ⟨q, am, Or.inr (Or.inr (⟨hk, rfl, g0, g1⟩)), (hF.toA hA), (hF.toV hA hV), rfl⟩
theorem kf_canTake {q : AS} (hB : BI q) (i t : Int32) {κ κ2 : Int32} {v v2 : Int32} {q' q2 : AS} (h : R_canTake q i t κ v q') (h2 : R_canTake q i t κ2 v2 q2) : κ = κ2 ∧ q' = q2 ∧ (κ = 0 → v = v2) := by
  have hb0 := hB.b0
  have hb1 := hB.b1
  rcases h with ⟨a0, ka, a1, a2, ja, a3, a4, a5, a6, a7⟩ | ⟨a0, a1, a2⟩ | ⟨a0, a1, a2, a3⟩
  · rcases h2 with ⟨b0, kb, b1, b2, jb, b3, b4, b5, b6, b7⟩ | ⟨b0, b1, b2⟩ | ⟨b0, b1, b2, b3⟩
    · have e_ka : ka = kb := nI_inj (a2.symm.trans b2) (by omega) (by omega)
      subst e_ka
      have e_ja : ja = jb := nI_inj (a4.symm.trans b4) (by omega) (by omega)
      subst e_ja
      exact ⟨a0.trans b0.symm, a6.trans b6.symm, fun _ => a7.symm.trans b7⟩
    · exact absurd (rp_of hB a1 a2) b2
    · exact absurd ⟨ja, a3, a4, a5⟩ b3
  · rcases h2 with ⟨b0, kb, b1, b2, jb, b3, b4, b5, b6, b7⟩ | ⟨b0, b1, b2⟩ | ⟨b0, b1, b2, b3⟩
    · exact absurd (rp_of hB b1 b2) a2
    · exact ⟨a0.trans b0.symm, a1.trans b1.symm, fun z => absurd (a0.symm.trans z) (by decide)⟩
    · exact absurd (b2.elim fun k9 z9 => rp_of hB z9.1 z9.2) a2
  · rcases h2 with ⟨b0, kb, b1, b2, jb, b3, b4, b5, b6, b7⟩ | ⟨b0, b1, b2⟩ | ⟨b0, b1, b2, b3⟩
    · exact absurd ⟨jb, b3, b4, b5⟩ a3
    · exact absurd (a2.elim fun k9 z9 => rp_of hB z9.1 z9.2) b2
    · exact ⟨a0.trans b0.symm, a1.trans b1.symm, fun z => absurd (a0.symm.trans z) (by decide)⟩
theorem ki_canTake {q : AS} {B : Nat} (hI : INV q B) (i t : Int32) {κ : Int32} {v : Int32} {q' : AS} (h : R_canTake q i t κ v q') : INV q' B := by
  rcases h with ⟨a0, ka, a1, a2, ja, a3, a4, a5, a6, a7⟩ | ⟨-, a1, -⟩ | ⟨-, a1, -⟩
  · rw [a6]; exact hI
  · rw [a1]; exact hI
  · rw [a1]; exact hI
def R_goesTo (q : AS) (i : Int32) (κ : Int32) (v : Int32) (q' : AS) : Prop := (κ = 0 ∧ ∃ k, k < cn q 0 ∧ i = nI k ∧ q' = q ∧ iO (gtA q k) = v) ∨ (κ = 1 ∧ q' = q ∧ ¬ isRp q i)
theorem kc_goesTo {S1 w w' : HS} {ad : AD} {q : AS} (hA : XA S1 ad (cn q 1)) (hV : XV S1 ad q) (i : Int32) {sv : HS → Int32 → HS} {r : Int32} (h : hP (fun r u => ∃ k, k < cn q 0 ∧ i = nI k ∧ FrX S1 u ad ∧ iO (gtA q k) = r) (fun E u => E = eIO ∧ S1 = u ∧ ¬ isRp q i) [eIO] S1 w sv r w') : ∃ (q' : AS) (v : Int32) (u : HS) (ad' : AD), R_goesTo q i r v q' ∧ XA u ad' (cn q' 1) ∧ XV u ad' q' ∧ ad' 0 0 = ad 0 0 ∧ Cov S1 u w ∧ ((r = 0 ∧ sv (fr S1 u w) v = w') ∨ (¬ r = 0 ∧ fr S1 u w = w')) := by
  rcases h with ⟨rfl, x, u, ⟨k, g0, g1, hF, hval⟩, hc, hw⟩ | ⟨j9, E, hj, rfl, u, hx, hc, hw⟩
  · exact ⟨_, x, _, ad, Or.inl ⟨rfl, k, g0, g1, rfl, hval⟩, (hF.toA hA), (hF.toV hA hV), rfl, hc, Or.inl ⟨rfl, hw⟩⟩
  · match j9, hj with
    | 0, hj =>
      obtain rfl : eIO = E := Option.some.inj hj
      obtain ⟨-, rfl, g0⟩ := hx
      exact ⟨q, 0, _, ad, Or.inr (⟨rfl, rfl, g0⟩), hA, hV, rfl, hc, Or.inr ⟨by decide, hw⟩⟩
    | n9 + 1, hj => cases hj
theorem km_goesTo {S2 u : HS} {am : AM} {q : AS} (hA : NA S2 am (cn q 1)) (hV : NV S2 am q) (i : Int32) {r : Int32} (h : ((∃ k, k < cn q 0 ∧ i = nI k ∧ FrN S2 u am ∧ hI u 61 (am 0) = 0 ∧ iO (gtA q k) = r) ∨ (¬ isRp q i ∧ FrN S2 u am ∧ hI u 61 (am 0) = 1))) : ∃ (q' : AS) (am' : AM), R_goesTo q i (hI u 61 (am 0)) r q' ∧ NA u am' (cn q' 1) ∧ NV u am' q' ∧ am' 0 = am 0 := by
  rcases h with ⟨k, g0, g1, hF, hk, hval⟩ | ⟨g0, hF, hk⟩
  · exact ⟨_, am, Or.inl ⟨hk, k, g0, g1, rfl, hval⟩, (hF.toA hA), (hF.toV hA hV), rfl⟩
  · exact ⟨q, am, Or.inr (⟨hk, rfl, g0⟩), (hF.toA hA), (hF.toV hA hV), rfl⟩
theorem kf_goesTo {q : AS} (hB : BI q) (i : Int32) {κ κ2 : Int32} {v v2 : Int32} {q' q2 : AS} (h : R_goesTo q i κ v q') (h2 : R_goesTo q i κ2 v2 q2) : κ = κ2 ∧ q' = q2 ∧ (κ = 0 → v = v2) := by
  have hb0 := hB.b0
  have hb1 := hB.b1
  rcases h with ⟨a0, ka, a1, a2, a3, a4⟩ | ⟨a0, a1, a2⟩
  · rcases h2 with ⟨b0, kb, b1, b2, b3, b4⟩ | ⟨b0, b1, b2⟩
    · have e_ka : ka = kb := nI_inj (a2.symm.trans b2) (by omega) (by omega)
      subst e_ka
      exact ⟨a0.trans b0.symm, a3.trans b3.symm, fun _ => a4.symm.trans b4⟩
    · exact absurd (rp_of hB a1 a2) b2
  · rcases h2 with ⟨b0, kb, b1, b2, b3, b4⟩ | ⟨b0, b1, b2⟩
    · exact absurd (rp_of hB b1 b2) a2
    · exact ⟨a0.trans b0.symm, a1.trans b1.symm, fun z => absurd (a0.symm.trans z) (by decide)⟩
theorem ki_goesTo {q : AS} {B : Nat} (hI : INV q B) (i : Int32) {κ : Int32} {v : Int32} {q' : AS} (h : R_goesTo q i κ v q') : INV q' B := by
  rcases h with ⟨a0, ka, a1, a2, a3, a4⟩ | ⟨-, a1, -⟩
  · rw [a3]; exact hI
  · rw [a1]; exact hI
def R_status (q : AS) (i : Int32) (κ : Int32) (v : Int32) (q' : AS) : Prop := (κ = 0 ∧ ∃ j, j < cn q 1 ∧ i = nI j ∧ q' = q ∧ stA q j = v) ∨ (κ = 1 ∧ q' = q ∧ ¬ isTk q i)
theorem kc_status {S1 w w' : HS} {ad : AD} {q : AS} (hA : XA S1 ad (cn q 1)) (hV : XV S1 ad q) (i : Int32) {sv : HS → Int32 → HS} {r : Int32} (h : hP (fun r u => ∃ j, j < cn q 1 ∧ i = nI j ∧ S1 = u ∧ stA q j = r) (fun E u => E = eIO ∧ S1 = u ∧ ¬ isTk q i) [eIO] S1 w sv r w') : ∃ (q' : AS) (v : Int32) (u : HS) (ad' : AD), R_status q i r v q' ∧ XA u ad' (cn q' 1) ∧ XV u ad' q' ∧ ad' 0 0 = ad 0 0 ∧ Cov S1 u w ∧ ((r = 0 ∧ sv (fr S1 u w) v = w') ∨ (¬ r = 0 ∧ fr S1 u w = w')) := by
  rcases h with ⟨rfl, x, u, ⟨j, g0, g1, rfl, hval⟩, hc, hw⟩ | ⟨j9, E, hj, rfl, u, hx, hc, hw⟩
  · exact ⟨_, x, _, ad, Or.inl ⟨rfl, j, g0, g1, rfl, hval⟩, hA, hV, rfl, hc, Or.inl ⟨rfl, hw⟩⟩
  · match j9, hj with
    | 0, hj =>
      obtain rfl : eIO = E := Option.some.inj hj
      obtain ⟨-, rfl, g0⟩ := hx
      exact ⟨q, 0, _, ad, Or.inr (⟨rfl, rfl, g0⟩), hA, hV, rfl, hc, Or.inr ⟨by decide, hw⟩⟩
    | n9 + 1, hj => cases hj
theorem km_status {S2 u : HS} {am : AM} {q : AS} (hA : NA S2 am (cn q 1)) (hV : NV S2 am q) (i : Int32) {r : Int32} (h : ((∃ j, j < cn q 1 ∧ i = nI j ∧ FrN S2 u am ∧ hI u 61 (am 0) = 0 ∧ stA q j = r) ∨ (¬ isTk q i ∧ FrN S2 u am ∧ hI u 61 (am 0) = 1))) : ∃ (q' : AS) (am' : AM), R_status q i (hI u 61 (am 0)) r q' ∧ NA u am' (cn q' 1) ∧ NV u am' q' ∧ am' 0 = am 0 := by
  rcases h with ⟨j, g0, g1, hF, hk, hval⟩ | ⟨g0, hF, hk⟩
  · exact ⟨_, am, Or.inl ⟨hk, j, g0, g1, rfl, hval⟩, (hF.toA hA), (hF.toV hA hV), rfl⟩
  · exact ⟨q, am, Or.inr (⟨hk, rfl, g0⟩), (hF.toA hA), (hF.toV hA hV), rfl⟩
theorem kf_status {q : AS} (hB : BI q) (i : Int32) {κ κ2 : Int32} {v v2 : Int32} {q' q2 : AS} (h : R_status q i κ v q') (h2 : R_status q i κ2 v2 q2) : κ = κ2 ∧ q' = q2 ∧ (κ = 0 → v = v2) := by
  have hb0 := hB.b0
  have hb1 := hB.b1
  rcases h with ⟨a0, ja, a1, a2, a3, a4⟩ | ⟨a0, a1, a2⟩
  · rcases h2 with ⟨b0, jb, b1, b2, b3, b4⟩ | ⟨b0, b1, b2⟩
    · have e_ja : ja = jb := nI_inj (a2.symm.trans b2) (by omega) (by omega)
      subst e_ja
      exact ⟨a0.trans b0.symm, a3.trans b3.symm, fun _ => a4.symm.trans b4⟩
    · exact absurd (tk_of hB a1 a2) b2
  · rcases h2 with ⟨b0, jb, b1, b2, b3, b4⟩ | ⟨b0, b1, b2⟩
    · exact absurd (tk_of hB b1 b2) a2
    · exact ⟨a0.trans b0.symm, a1.trans b1.symm, fun z => absurd (a0.symm.trans z) (by decide)⟩
theorem ki_status {q : AS} {B : Nat} (hI : INV q B) (i : Int32) {κ : Int32} {v : Int32} {q' : AS} (h : R_status q i κ v q') : INV q' B := by
  rcases h with ⟨a0, ja, a1, a2, a3, a4⟩ | ⟨-, a1, -⟩
  · rw [a3]; exact hI
  · rw [a1]; exact hI
def R_timeOf (q : AS) (i : Int32) (κ : Int32) (v : Int32) (q' : AS) : Prop := (κ = 0 ∧ ∃ j, j < cn q 1 ∧ i = nI j ∧ q' = q ∧ iO (zz q 3 j 0) = v) ∨ (κ = 1 ∧ q' = q ∧ ¬ isTk q i)
theorem kc_timeOf {S1 w w' : HS} {ad : AD} {q : AS} (hA : XA S1 ad (cn q 1)) (hV : XV S1 ad q) (i : Int32) {sv : HS → Int32 → HS} {r : Int32} (h : hP (fun r u => ∃ j, j < cn q 1 ∧ i = nI j ∧ S1 = u ∧ iO (zz q 3 j 0) = r) (fun E u => E = eIO ∧ S1 = u ∧ ¬ isTk q i) [eIO] S1 w sv r w') : ∃ (q' : AS) (v : Int32) (u : HS) (ad' : AD), R_timeOf q i r v q' ∧ XA u ad' (cn q' 1) ∧ XV u ad' q' ∧ ad' 0 0 = ad 0 0 ∧ Cov S1 u w ∧ ((r = 0 ∧ sv (fr S1 u w) v = w') ∨ (¬ r = 0 ∧ fr S1 u w = w')) := by
  rcases h with ⟨rfl, x, u, ⟨j, g0, g1, rfl, hval⟩, hc, hw⟩ | ⟨j9, E, hj, rfl, u, hx, hc, hw⟩
  · exact ⟨_, x, _, ad, Or.inl ⟨rfl, j, g0, g1, rfl, hval⟩, hA, hV, rfl, hc, Or.inl ⟨rfl, hw⟩⟩
  · match j9, hj with
    | 0, hj =>
      obtain rfl : eIO = E := Option.some.inj hj
      obtain ⟨-, rfl, g0⟩ := hx
      exact ⟨q, 0, _, ad, Or.inr (⟨rfl, rfl, g0⟩), hA, hV, rfl, hc, Or.inr ⟨by decide, hw⟩⟩
    | n9 + 1, hj => cases hj
theorem km_timeOf {S2 u : HS} {am : AM} {q : AS} (hA : NA S2 am (cn q 1)) (hV : NV S2 am q) (i : Int32) {r : Int32} (h : ((∃ j, j < cn q 1 ∧ i = nI j ∧ FrN S2 u am ∧ hI u 61 (am 0) = 0 ∧ iO (zz q 3 j 0) = r) ∨ (¬ isTk q i ∧ FrN S2 u am ∧ hI u 61 (am 0) = 1))) : ∃ (q' : AS) (am' : AM), R_timeOf q i (hI u 61 (am 0)) r q' ∧ NA u am' (cn q' 1) ∧ NV u am' q' ∧ am' 0 = am 0 := by
  rcases h with ⟨j, g0, g1, hF, hk, hval⟩ | ⟨g0, hF, hk⟩
  · exact ⟨_, am, Or.inl ⟨hk, j, g0, g1, rfl, hval⟩, (hF.toA hA), (hF.toV hA hV), rfl⟩
  · exact ⟨q, am, Or.inr (⟨hk, rfl, g0⟩), (hF.toA hA), (hF.toV hA hV), rfl⟩
theorem kf_timeOf {q : AS} (hB : BI q) (i : Int32) {κ κ2 : Int32} {v v2 : Int32} {q' q2 : AS} (h : R_timeOf q i κ v q') (h2 : R_timeOf q i κ2 v2 q2) : κ = κ2 ∧ q' = q2 ∧ (κ = 0 → v = v2) := by
  have hb0 := hB.b0
  have hb1 := hB.b1
  rcases h with ⟨a0, ja, a1, a2, a3, a4⟩ | ⟨a0, a1, a2⟩
  · rcases h2 with ⟨b0, jb, b1, b2, b3, b4⟩ | ⟨b0, b1, b2⟩
    · have e_ja : ja = jb := nI_inj (a2.symm.trans b2) (by omega) (by omega)
      subst e_ja
      exact ⟨a0.trans b0.symm, a3.trans b3.symm, fun _ => a4.symm.trans b4⟩
    · exact absurd (tk_of hB a1 a2) b2
  · rcases h2 with ⟨b0, jb, b1, b2, b3, b4⟩ | ⟨b0, b1, b2⟩
    · exact absurd (tk_of hB b1 b2) a2
    · exact ⟨a0.trans b0.symm, a1.trans b1.symm, fun z => absurd (a0.symm.trans z) (by decide)⟩
theorem ki_timeOf {q : AS} {B : Nat} (hI : INV q B) (i : Int32) {κ : Int32} {v : Int32} {q' : AS} (h : R_timeOf q i κ v q') : INV q' B := by
  rcases h with ⟨a0, ja, a1, a2, a3, a4⟩ | ⟨-, a1, -⟩
  · rw [a3]; exact hI
  · rw [a1]; exact hI
def R_stateOf (q : AS) (i x : Int32) (κ : Int32) (v : Int32) (q' : AS) : Prop := (κ = 0 ∧ ∃ j, j < cn q 1 ∧ i = nI j ∧ isIn x 0 3 ∧ ∃ k, k < 4 ∧ x = nI k ∧ q' = q ∧ iO (zz q 3 j (1 + k)) = v) ∨ (κ = 1 ∧ q' = q ∧ ¬ isTk q i) ∨ (κ = 2 ∧ q' = q ∧ ∃ j, j < cn q 1 ∧ i = nI j ∧ ¬ isIn x 0 3)
theorem kc_stateOf {S1 w w' : HS} {ad : AD} {q : AS} (hA : XA S1 ad (cn q 1)) (hV : XV S1 ad q) (i x : Int32) {sv : HS → Int32 → HS} {r : Int32} (h : hP (fun r u => ∃ j, j < cn q 1 ∧ i = nI j ∧ isIn x 0 3 ∧ ∃ k, k < 4 ∧ x = nI k ∧ S1 = u ∧ iO (zz q 3 j (1 + k)) = r) (fun E u => S1 = u ∧ ((E = eIO ∧ ¬ isTk q i) ∨ (E = eIA ∧ ∃ j, j < cn q 1 ∧ i = nI j ∧ ¬ isIn x 0 3))) [eIO, eIA] S1 w sv r w') : ∃ (q' : AS) (v : Int32) (u : HS) (ad' : AD), R_stateOf q i x r v q' ∧ XA u ad' (cn q' 1) ∧ XV u ad' q' ∧ ad' 0 0 = ad 0 0 ∧ Cov S1 u w ∧ ((r = 0 ∧ sv (fr S1 u w) v = w') ∨ (¬ r = 0 ∧ fr S1 u w = w')) := by
  rcases h with ⟨rfl, x, u, ⟨j, g0, g1, g2, k, g3, g4, rfl, hval⟩, hc, hw⟩ | ⟨j9, E, hj, rfl, u, hx, hc, hw⟩
  · exact ⟨_, x, _, ad, Or.inl ⟨rfl, j, g0, g1, g2, k, g3, g4, rfl, hval⟩, hA, hV, rfl, hc, Or.inl ⟨rfl, hw⟩⟩
  · match j9, hj with
    | 0, hj =>
      obtain rfl : eIO = E := Option.some.inj hj
      obtain ⟨rfl, hx⟩ := hx
      rcases hx with ⟨he, g0⟩ | ⟨he, -⟩
      · exact ⟨q, 0, _, ad, Or.inr (Or.inl ⟨rfl, rfl, g0⟩), hA, hV, rfl, hc, Or.inr ⟨by decide, hw⟩⟩
      · exact absurd he (by decide)
    | 1, hj =>
      obtain rfl : eIA = E := Option.some.inj hj
      obtain ⟨rfl, hx⟩ := hx
      rcases hx with ⟨he, -⟩ | ⟨he, j, g1, g2, g3⟩
      · exact absurd he (by decide)
      · exact ⟨q, 0, _, ad, Or.inr (Or.inr (⟨rfl, rfl, j, g1, g2, g3⟩)), hA, hV, rfl, hc, Or.inr ⟨by decide, hw⟩⟩
    | n9 + 2, hj => cases hj
theorem km_stateOf {S2 u : HS} {am : AM} {q : AS} (hA : NA S2 am (cn q 1)) (hV : NV S2 am q) (i x : Int32) {r : Int32} (h : ((∃ j, j < cn q 1 ∧ i = nI j ∧ isIn x 0 3 ∧ ∃ k, k < 4 ∧ x = nI k ∧ FrN S2 u am ∧ hI u 61 (am 0) = 0 ∧ iO (zz q 3 j (1 + k)) = r) ∨ (¬ isTk q i ∧ FrN S2 u am ∧ hI u 61 (am 0) = 1) ∨ (∃ j, j < cn q 1 ∧ i = nI j ∧ ¬ isIn x 0 3 ∧ FrN S2 u am ∧ hI u 61 (am 0) = 2))) : ∃ (q' : AS) (am' : AM), R_stateOf q i x (hI u 61 (am 0)) r q' ∧ NA u am' (cn q' 1) ∧ NV u am' q' ∧ am' 0 = am 0 := by
  rcases h with ⟨j, g0, g1, g2, k, g3, g4, hF, hk, hval⟩ | ⟨g0, hF, hk⟩ | ⟨j, g0, g1, g2, hF, hk⟩
  · exact ⟨_, am, Or.inl ⟨hk, j, g0, g1, g2, k, g3, g4, rfl, hval⟩, (hF.toA hA), (hF.toV hA hV), rfl⟩
  · exact ⟨q, am, Or.inr (Or.inl ⟨hk, rfl, g0⟩), (hF.toA hA), (hF.toV hA hV), rfl⟩
  · exact ⟨q, am, Or.inr (Or.inr (⟨hk, rfl, j, g0, g1, g2⟩)), (hF.toA hA), (hF.toV hA hV), rfl⟩
theorem kf_stateOf {q : AS} (hB : BI q) (i x : Int32) {κ κ2 : Int32} {v v2 : Int32} {q' q2 : AS} (h : R_stateOf q i x κ v q') (h2 : R_stateOf q i x κ2 v2 q2) : κ = κ2 ∧ q' = q2 ∧ (κ = 0 → v = v2) := by
  have hb0 := hB.b0
  have hb1 := hB.b1
  rcases h with ⟨a0, ja, a1, a2, a3, ka, a4, a5, a6, a7⟩ | ⟨a0, a1, a2⟩ | ⟨a0, a1, ja, a2, a3, a4⟩
  · rcases h2 with ⟨b0, jb, b1, b2, b3, kb, b4, b5, b6, b7⟩ | ⟨b0, b1, b2⟩ | ⟨b0, b1, jb, b2, b3, b4⟩
    · have e_ja : ja = jb := nI_inj (a2.symm.trans b2) (by omega) (by omega)
      subst e_ja
      have e_ka : ka = kb := nI_inj (a5.symm.trans b5) (by omega) (by omega)
      subst e_ka
      exact ⟨a0.trans b0.symm, a6.trans b6.symm, fun _ => a7.symm.trans b7⟩
    · exact absurd (tk_of hB a1 a2) b2
    · have e_ja : ja = jb := nI_inj (a2.symm.trans b3) (by omega) (by omega)
      subst e_ja
      exact absurd a3 b4
  · rcases h2 with ⟨b0, jb, b1, b2, b3, kb, b4, b5, b6, b7⟩ | ⟨b0, b1, b2⟩ | ⟨b0, b1, jb, b2, b3, b4⟩
    · exact absurd (tk_of hB b1 b2) a2
    · exact ⟨a0.trans b0.symm, a1.trans b1.symm, fun z => absurd (a0.symm.trans z) (by decide)⟩
    · exact absurd (tk_of hB b2 b3) a2
  · rcases h2 with ⟨b0, jb, b1, b2, b3, kb, b4, b5, b6, b7⟩ | ⟨b0, b1, b2⟩ | ⟨b0, b1, jb, b2, b3, b4⟩
    · have e_ja : ja = jb := nI_inj (a3.symm.trans b2) (by omega) (by omega)
      subst e_ja
      exact absurd b3 a4
    · exact absurd (tk_of hB a2 a3) b2
    · exact ⟨a0.trans b0.symm, a1.trans b1.symm, fun z => absurd (a0.symm.trans z) (by decide)⟩
theorem ki_stateOf {q : AS} {B : Nat} (hI : INV q B) (i x : Int32) {κ : Int32} {v : Int32} {q' : AS} (h : R_stateOf q i x κ v q') : INV q' B := by
  rcases h with ⟨a0, ja, a1, a2, a3, ka, a4, a5, a6, a7⟩ | ⟨-, a1, -⟩ | ⟨-, a1, -⟩
  · rw [a6]; exact hI
  · rw [a1]; exact hI
  · rw [a1]; exact hI
def R_predicted (q : AS) (i t z : Int32) (κ : Int32) (v : Int32) (q' : AS) : Prop := (κ = 0 ∧ ∃ j, j < cn q 1 ∧ i = nI j ∧ isAk t ∧ q' = q ∧ (if z = 0 then iO (ahd q j t.toInt 0 / 16) else iO (ahd q j t.toInt 1 / 16)) = v) ∨ (κ = 1 ∧ q' = q ∧ ¬ isTk q i) ∨ (κ = 2 ∧ q' = q ∧ ∃ j, j < cn q 1 ∧ i = nI j ∧ ¬ isAk t)
theorem kc_predicted {S1 w w' : HS} {ad : AD} {q : AS} (hA : XA S1 ad (cn q 1)) (hV : XV S1 ad q) (i t z : Int32) {sv : HS → Int32 → HS} {r : Int32} (h : hP (fun r u => ∃ j, j < cn q 1 ∧ i = nI j ∧ isAk t ∧ S1 = u ∧ (if z = 0 then iO (ahd q j t.toInt 0 / 16) else iO (ahd q j t.toInt 1 / 16)) = r) (fun E u => S1 = u ∧ ((E = eIO ∧ ¬ isTk q i) ∨ (E = eIA ∧ ∃ j, j < cn q 1 ∧ i = nI j ∧ ¬ isAk t))) [eIO, eIA] S1 w sv r w') : ∃ (q' : AS) (v : Int32) (u : HS) (ad' : AD), R_predicted q i t z r v q' ∧ XA u ad' (cn q' 1) ∧ XV u ad' q' ∧ ad' 0 0 = ad 0 0 ∧ Cov S1 u w ∧ ((r = 0 ∧ sv (fr S1 u w) v = w') ∨ (¬ r = 0 ∧ fr S1 u w = w')) := by
  rcases h with ⟨rfl, x, u, ⟨j, g0, g1, g2, rfl, hval⟩, hc, hw⟩ | ⟨j9, E, hj, rfl, u, hx, hc, hw⟩
  · exact ⟨_, x, _, ad, Or.inl ⟨rfl, j, g0, g1, g2, rfl, hval⟩, hA, hV, rfl, hc, Or.inl ⟨rfl, hw⟩⟩
  · match j9, hj with
    | 0, hj =>
      obtain rfl : eIO = E := Option.some.inj hj
      obtain ⟨rfl, hx⟩ := hx
      rcases hx with ⟨he, g0⟩ | ⟨he, -⟩
      · exact ⟨q, 0, _, ad, Or.inr (Or.inl ⟨rfl, rfl, g0⟩), hA, hV, rfl, hc, Or.inr ⟨by decide, hw⟩⟩
      · exact absurd he (by decide)
    | 1, hj =>
      obtain rfl : eIA = E := Option.some.inj hj
      obtain ⟨rfl, hx⟩ := hx
      rcases hx with ⟨he, -⟩ | ⟨he, j, g1, g2, g3⟩
      · exact absurd he (by decide)
      · exact ⟨q, 0, _, ad, Or.inr (Or.inr (⟨rfl, rfl, j, g1, g2, g3⟩)), hA, hV, rfl, hc, Or.inr ⟨by decide, hw⟩⟩
    | n9 + 2, hj => cases hj
theorem km_predicted {S2 u : HS} {am : AM} {q : AS} (hA : NA S2 am (cn q 1)) (hV : NV S2 am q) (i t z : Int32) {r : Int32} (h : ((∃ j, j < cn q 1 ∧ i = nI j ∧ isAk t ∧ FrN S2 u am ∧ hI u 61 (am 0) = 0 ∧ (if z = 0 then iO (ahd q j t.toInt 0 / 16) else iO (ahd q j t.toInt 1 / 16)) = r) ∨ (¬ isTk q i ∧ FrN S2 u am ∧ hI u 61 (am 0) = 1) ∨ (∃ j, j < cn q 1 ∧ i = nI j ∧ ¬ isAk t ∧ FrN S2 u am ∧ hI u 61 (am 0) = 2))) : ∃ (q' : AS) (am' : AM), R_predicted q i t z (hI u 61 (am 0)) r q' ∧ NA u am' (cn q' 1) ∧ NV u am' q' ∧ am' 0 = am 0 := by
  rcases h with ⟨j, g0, g1, g2, hF, hk, hval⟩ | ⟨g0, hF, hk⟩ | ⟨j, g0, g1, g2, hF, hk⟩
  · exact ⟨_, am, Or.inl ⟨hk, j, g0, g1, g2, rfl, hval⟩, (hF.toA hA), (hF.toV hA hV), rfl⟩
  · exact ⟨q, am, Or.inr (Or.inl ⟨hk, rfl, g0⟩), (hF.toA hA), (hF.toV hA hV), rfl⟩
  · exact ⟨q, am, Or.inr (Or.inr (⟨hk, rfl, j, g0, g1, g2⟩)), (hF.toA hA), (hF.toV hA hV), rfl⟩
theorem kf_predicted {q : AS} (hB : BI q) (i t z : Int32) {κ κ2 : Int32} {v v2 : Int32} {q' q2 : AS} (h : R_predicted q i t z κ v q') (h2 : R_predicted q i t z κ2 v2 q2) : κ = κ2 ∧ q' = q2 ∧ (κ = 0 → v = v2) := by
  have hb0 := hB.b0
  have hb1 := hB.b1
  rcases h with ⟨a0, ja, a1, a2, a3, a4, a5⟩ | ⟨a0, a1, a2⟩ | ⟨a0, a1, ja, a2, a3, a4⟩
  · rcases h2 with ⟨b0, jb, b1, b2, b3, b4, b5⟩ | ⟨b0, b1, b2⟩ | ⟨b0, b1, jb, b2, b3, b4⟩
    · have e_ja : ja = jb := nI_inj (a2.symm.trans b2) (by omega) (by omega)
      subst e_ja
      exact ⟨a0.trans b0.symm, a4.trans b4.symm, fun _ => a5.symm.trans b5⟩
    · exact absurd (tk_of hB a1 a2) b2
    · have e_ja : ja = jb := nI_inj (a2.symm.trans b3) (by omega) (by omega)
      subst e_ja
      exact absurd a3 b4
  · rcases h2 with ⟨b0, jb, b1, b2, b3, b4, b5⟩ | ⟨b0, b1, b2⟩ | ⟨b0, b1, jb, b2, b3, b4⟩
    · exact absurd (tk_of hB b1 b2) a2
    · exact ⟨a0.trans b0.symm, a1.trans b1.symm, fun z => absurd (a0.symm.trans z) (by decide)⟩
    · exact absurd (tk_of hB b2 b3) a2
  · rcases h2 with ⟨b0, jb, b1, b2, b3, b4, b5⟩ | ⟨b0, b1, b2⟩ | ⟨b0, b1, jb, b2, b3, b4⟩
    · have e_ja : ja = jb := nI_inj (a3.symm.trans b2) (by omega) (by omega)
      subst e_ja
      exact absurd b3 a4
    · exact absurd (tk_of hB a2 a3) b2
    · exact ⟨a0.trans b0.symm, a1.trans b1.symm, fun z => absurd (a0.symm.trans z) (by decide)⟩
theorem ki_predicted {q : AS} {B : Nat} (hI : INV q B) (i t z : Int32) {κ : Int32} {v : Int32} {q' : AS} (h : R_predicted q i t z κ v q') : INV q' B := by
  rcases h with ⟨a0, ja, a1, a2, a3, a4, a5⟩ | ⟨-, a1, -⟩ | ⟨-, a1, -⟩
  · rw [a4]; exact hI
  · rw [a1]; exact hI
  · rw [a1]; exact hI
def R_hits (q : AS) (i : Int32) (κ : Int32) (v : Int32) (q' : AS) : Prop := (κ = 0 ∧ ∃ j, j < cn q 1 ∧ i = nI j ∧ q' = q ∧ iO (zz q 3 j 5) = v) ∨ (κ = 1 ∧ q' = q ∧ ¬ isTk q i)
theorem kc_hits {S1 w w' : HS} {ad : AD} {q : AS} (hA : XA S1 ad (cn q 1)) (hV : XV S1 ad q) (i : Int32) {sv : HS → Int32 → HS} {r : Int32} (h : hP (fun r u => ∃ j, j < cn q 1 ∧ i = nI j ∧ S1 = u ∧ iO (zz q 3 j 5) = r) (fun E u => E = eIO ∧ S1 = u ∧ ¬ isTk q i) [eIO] S1 w sv r w') : ∃ (q' : AS) (v : Int32) (u : HS) (ad' : AD), R_hits q i r v q' ∧ XA u ad' (cn q' 1) ∧ XV u ad' q' ∧ ad' 0 0 = ad 0 0 ∧ Cov S1 u w ∧ ((r = 0 ∧ sv (fr S1 u w) v = w') ∨ (¬ r = 0 ∧ fr S1 u w = w')) := by
  rcases h with ⟨rfl, x, u, ⟨j, g0, g1, rfl, hval⟩, hc, hw⟩ | ⟨j9, E, hj, rfl, u, hx, hc, hw⟩
  · exact ⟨_, x, _, ad, Or.inl ⟨rfl, j, g0, g1, rfl, hval⟩, hA, hV, rfl, hc, Or.inl ⟨rfl, hw⟩⟩
  · match j9, hj with
    | 0, hj =>
      obtain rfl : eIO = E := Option.some.inj hj
      obtain ⟨-, rfl, g0⟩ := hx
      exact ⟨q, 0, _, ad, Or.inr (⟨rfl, rfl, g0⟩), hA, hV, rfl, hc, Or.inr ⟨by decide, hw⟩⟩
    | n9 + 1, hj => cases hj
theorem km_hits {S2 u : HS} {am : AM} {q : AS} (hA : NA S2 am (cn q 1)) (hV : NV S2 am q) (i : Int32) {r : Int32} (h : ((∃ j, j < cn q 1 ∧ i = nI j ∧ FrN S2 u am ∧ hI u 61 (am 0) = 0 ∧ iO (zz q 3 j 5) = r) ∨ (¬ isTk q i ∧ FrN S2 u am ∧ hI u 61 (am 0) = 1))) : ∃ (q' : AS) (am' : AM), R_hits q i (hI u 61 (am 0)) r q' ∧ NA u am' (cn q' 1) ∧ NV u am' q' ∧ am' 0 = am 0 := by
  rcases h with ⟨j, g0, g1, hF, hk, hval⟩ | ⟨g0, hF, hk⟩
  · exact ⟨_, am, Or.inl ⟨hk, j, g0, g1, rfl, hval⟩, (hF.toA hA), (hF.toV hA hV), rfl⟩
  · exact ⟨q, am, Or.inr (⟨hk, rfl, g0⟩), (hF.toA hA), (hF.toV hA hV), rfl⟩
theorem kf_hits {q : AS} (hB : BI q) (i : Int32) {κ κ2 : Int32} {v v2 : Int32} {q' q2 : AS} (h : R_hits q i κ v q') (h2 : R_hits q i κ2 v2 q2) : κ = κ2 ∧ q' = q2 ∧ (κ = 0 → v = v2) := by
  have hb0 := hB.b0
  have hb1 := hB.b1
  rcases h with ⟨a0, ja, a1, a2, a3, a4⟩ | ⟨a0, a1, a2⟩
  · rcases h2 with ⟨b0, jb, b1, b2, b3, b4⟩ | ⟨b0, b1, b2⟩
    · have e_ja : ja = jb := nI_inj (a2.symm.trans b2) (by omega) (by omega)
      subst e_ja
      exact ⟨a0.trans b0.symm, a3.trans b3.symm, fun _ => a4.symm.trans b4⟩
    · exact absurd (tk_of hB a1 a2) b2
  · rcases h2 with ⟨b0, jb, b1, b2, b3, b4⟩ | ⟨b0, b1, b2⟩
    · exact absurd (tk_of hB b1 b2) a2
    · exact ⟨a0.trans b0.symm, a1.trans b1.symm, fun z => absurd (a0.symm.trans z) (by decide)⟩
theorem ki_hits {q : AS} {B : Nat} (hI : INV q B) (i : Int32) {κ : Int32} {v : Int32} {q' : AS} (h : R_hits q i κ v q') : INV q' B := by
  rcases h with ⟨a0, ja, a1, a2, a3, a4⟩ | ⟨-, a1, -⟩
  · rw [a3]; exact hI
  · rw [a1]; exact hI
def R_misses (q : AS) (i : Int32) (κ : Int32) (v : Int32) (q' : AS) : Prop := (κ = 0 ∧ ∃ j, j < cn q 1 ∧ i = nI j ∧ q' = q ∧ iO (zz q 3 j 6) = v) ∨ (κ = 1 ∧ q' = q ∧ ¬ isTk q i)
theorem kc_misses {S1 w w' : HS} {ad : AD} {q : AS} (hA : XA S1 ad (cn q 1)) (hV : XV S1 ad q) (i : Int32) {sv : HS → Int32 → HS} {r : Int32} (h : hP (fun r u => ∃ j, j < cn q 1 ∧ i = nI j ∧ S1 = u ∧ iO (zz q 3 j 6) = r) (fun E u => E = eIO ∧ S1 = u ∧ ¬ isTk q i) [eIO] S1 w sv r w') : ∃ (q' : AS) (v : Int32) (u : HS) (ad' : AD), R_misses q i r v q' ∧ XA u ad' (cn q' 1) ∧ XV u ad' q' ∧ ad' 0 0 = ad 0 0 ∧ Cov S1 u w ∧ ((r = 0 ∧ sv (fr S1 u w) v = w') ∨ (¬ r = 0 ∧ fr S1 u w = w')) := by
  rcases h with ⟨rfl, x, u, ⟨j, g0, g1, rfl, hval⟩, hc, hw⟩ | ⟨j9, E, hj, rfl, u, hx, hc, hw⟩
  · exact ⟨_, x, _, ad, Or.inl ⟨rfl, j, g0, g1, rfl, hval⟩, hA, hV, rfl, hc, Or.inl ⟨rfl, hw⟩⟩
  · match j9, hj with
    | 0, hj =>
      obtain rfl : eIO = E := Option.some.inj hj
      obtain ⟨-, rfl, g0⟩ := hx
      exact ⟨q, 0, _, ad, Or.inr (⟨rfl, rfl, g0⟩), hA, hV, rfl, hc, Or.inr ⟨by decide, hw⟩⟩
    | n9 + 1, hj => cases hj
theorem km_misses {S2 u : HS} {am : AM} {q : AS} (hA : NA S2 am (cn q 1)) (hV : NV S2 am q) (i : Int32) {r : Int32} (h : ((∃ j, j < cn q 1 ∧ i = nI j ∧ FrN S2 u am ∧ hI u 61 (am 0) = 0 ∧ iO (zz q 3 j 6) = r) ∨ (¬ isTk q i ∧ FrN S2 u am ∧ hI u 61 (am 0) = 1))) : ∃ (q' : AS) (am' : AM), R_misses q i (hI u 61 (am 0)) r q' ∧ NA u am' (cn q' 1) ∧ NV u am' q' ∧ am' 0 = am 0 := by
  rcases h with ⟨j, g0, g1, hF, hk, hval⟩ | ⟨g0, hF, hk⟩
  · exact ⟨_, am, Or.inl ⟨hk, j, g0, g1, rfl, hval⟩, (hF.toA hA), (hF.toV hA hV), rfl⟩
  · exact ⟨q, am, Or.inr (⟨hk, rfl, g0⟩), (hF.toA hA), (hF.toV hA hV), rfl⟩
theorem kf_misses {q : AS} (hB : BI q) (i : Int32) {κ κ2 : Int32} {v v2 : Int32} {q' q2 : AS} (h : R_misses q i κ v q') (h2 : R_misses q i κ2 v2 q2) : κ = κ2 ∧ q' = q2 ∧ (κ = 0 → v = v2) := by
  have hb0 := hB.b0
  have hb1 := hB.b1
  rcases h with ⟨a0, ja, a1, a2, a3, a4⟩ | ⟨a0, a1, a2⟩
  · rcases h2 with ⟨b0, jb, b1, b2, b3, b4⟩ | ⟨b0, b1, b2⟩
    · have e_ja : ja = jb := nI_inj (a2.symm.trans b2) (by omega) (by omega)
      subst e_ja
      exact ⟨a0.trans b0.symm, a3.trans b3.symm, fun _ => a4.symm.trans b4⟩
    · exact absurd (tk_of hB a1 a2) b2
  · rcases h2 with ⟨b0, jb, b1, b2, b3, b4⟩ | ⟨b0, b1, b2⟩
    · exact absurd (tk_of hB b1 b2) a2
    · exact ⟨a0.trans b0.symm, a1.trans b1.symm, fun z => absurd (a0.symm.trans z) (by decide)⟩
theorem ki_misses {q : AS} {B : Nat} (hI : INV q B) (i : Int32) {κ : Int32} {v : Int32} {q' : AS} (h : R_misses q i κ v q') : INV q' B := by
  rcases h with ⟨a0, ja, a1, a2, a3, a4⟩ | ⟨-, a1, -⟩
  · rw [a3]; exact hI
  · rw [a1]; exact hI
def R_mergedInto (q : AS) (i : Int32) (κ : Int32) (v : Int32) (q' : AS) : Prop := (κ = 0 ∧ ∃ j, j < cn q 1 ∧ i = nI j ∧ zz q 3 j 7 = 2 ∧ q' = q ∧ iO (zz q 3 j 8) = v) ∨ (κ = 1 ∧ q' = q ∧ ¬ isTk q i) ∨ (κ = 2 ∧ q' = q ∧ ∃ j, j < cn q 1 ∧ i = nI j ∧ ¬ zz q 3 j 7 = 2)
theorem kc_mergedInto {S1 w w' : HS} {ad : AD} {q : AS} (hA : XA S1 ad (cn q 1)) (hV : XV S1 ad q) (i : Int32) {sv : HS → Int32 → HS} {r : Int32} (h : hP (fun r u => ∃ j, j < cn q 1 ∧ i = nI j ∧ zz q 3 j 7 = 2 ∧ S1 = u ∧ iO (zz q 3 j 8) = r) (fun E u => S1 = u ∧ ((E = eIO ∧ ¬ isTk q i) ∨ (E = eNE ∧ ∃ j, j < cn q 1 ∧ i = nI j ∧ ¬ zz q 3 j 7 = 2))) [eIO, eNE] S1 w sv r w') : ∃ (q' : AS) (v : Int32) (u : HS) (ad' : AD), R_mergedInto q i r v q' ∧ XA u ad' (cn q' 1) ∧ XV u ad' q' ∧ ad' 0 0 = ad 0 0 ∧ Cov S1 u w ∧ ((r = 0 ∧ sv (fr S1 u w) v = w') ∨ (¬ r = 0 ∧ fr S1 u w = w')) := by
  rcases h with ⟨rfl, x, u, ⟨j, g0, g1, g2, rfl, hval⟩, hc, hw⟩ | ⟨j9, E, hj, rfl, u, hx, hc, hw⟩
  · exact ⟨_, x, _, ad, Or.inl ⟨rfl, j, g0, g1, g2, rfl, hval⟩, hA, hV, rfl, hc, Or.inl ⟨rfl, hw⟩⟩
  · match j9, hj with
    | 0, hj =>
      obtain rfl : eIO = E := Option.some.inj hj
      obtain ⟨rfl, hx⟩ := hx
      rcases hx with ⟨he, g0⟩ | ⟨he, -⟩
      · exact ⟨q, 0, _, ad, Or.inr (Or.inl ⟨rfl, rfl, g0⟩), hA, hV, rfl, hc, Or.inr ⟨by decide, hw⟩⟩
      · exact absurd he (by decide)
    | 1, hj =>
      obtain rfl : eNE = E := Option.some.inj hj
      obtain ⟨rfl, hx⟩ := hx
      rcases hx with ⟨he, -⟩ | ⟨he, j, g1, g2, g3⟩
      · exact absurd he (by decide)
      · exact ⟨q, 0, _, ad, Or.inr (Or.inr (⟨rfl, rfl, j, g1, g2, g3⟩)), hA, hV, rfl, hc, Or.inr ⟨by decide, hw⟩⟩
    | n9 + 2, hj => cases hj
theorem km_mergedInto {S2 u : HS} {am : AM} {q : AS} (hA : NA S2 am (cn q 1)) (hV : NV S2 am q) (i : Int32) {r : Int32} (h : ((∃ j, j < cn q 1 ∧ i = nI j ∧ zz q 3 j 7 = 2 ∧ FrN S2 u am ∧ hI u 61 (am 0) = 0 ∧ iO (zz q 3 j 8) = r) ∨ (¬ isTk q i ∧ FrN S2 u am ∧ hI u 61 (am 0) = 1) ∨ (∃ j, j < cn q 1 ∧ i = nI j ∧ ¬ zz q 3 j 7 = 2 ∧ FrN S2 u am ∧ hI u 61 (am 0) = 2))) : ∃ (q' : AS) (am' : AM), R_mergedInto q i (hI u 61 (am 0)) r q' ∧ NA u am' (cn q' 1) ∧ NV u am' q' ∧ am' 0 = am 0 := by
  rcases h with ⟨j, g0, g1, g2, hF, hk, hval⟩ | ⟨g0, hF, hk⟩ | ⟨j, g0, g1, g2, hF, hk⟩
  · exact ⟨_, am, Or.inl ⟨hk, j, g0, g1, g2, rfl, hval⟩, (hF.toA hA), (hF.toV hA hV), rfl⟩
  · exact ⟨q, am, Or.inr (Or.inl ⟨hk, rfl, g0⟩), (hF.toA hA), (hF.toV hA hV), rfl⟩
  · exact ⟨q, am, Or.inr (Or.inr (⟨hk, rfl, j, g0, g1, g2⟩)), (hF.toA hA), (hF.toV hA hV), rfl⟩
theorem kf_mergedInto {q : AS} (hB : BI q) (i : Int32) {κ κ2 : Int32} {v v2 : Int32} {q' q2 : AS} (h : R_mergedInto q i κ v q') (h2 : R_mergedInto q i κ2 v2 q2) : κ = κ2 ∧ q' = q2 ∧ (κ = 0 → v = v2) := by
  have hb0 := hB.b0
  have hb1 := hB.b1
  rcases h with ⟨a0, ja, a1, a2, a3, a4, a5⟩ | ⟨a0, a1, a2⟩ | ⟨a0, a1, ja, a2, a3, a4⟩
  · rcases h2 with ⟨b0, jb, b1, b2, b3, b4, b5⟩ | ⟨b0, b1, b2⟩ | ⟨b0, b1, jb, b2, b3, b4⟩
    · have e_ja : ja = jb := nI_inj (a2.symm.trans b2) (by omega) (by omega)
      subst e_ja
      exact ⟨a0.trans b0.symm, a4.trans b4.symm, fun _ => a5.symm.trans b5⟩
    · exact absurd (tk_of hB a1 a2) b2
    · have e_ja : ja = jb := nI_inj (a2.symm.trans b3) (by omega) (by omega)
      subst e_ja
      exact absurd a3 b4
  · rcases h2 with ⟨b0, jb, b1, b2, b3, b4, b5⟩ | ⟨b0, b1, b2⟩ | ⟨b0, b1, jb, b2, b3, b4⟩
    · exact absurd (tk_of hB b1 b2) a2
    · exact ⟨a0.trans b0.symm, a1.trans b1.symm, fun z => absurd (a0.symm.trans z) (by decide)⟩
    · exact absurd (tk_of hB b2 b3) a2
  · rcases h2 with ⟨b0, jb, b1, b2, b3, b4, b5⟩ | ⟨b0, b1, b2⟩ | ⟨b0, b1, jb, b2, b3, b4⟩
    · have e_ja : ja = jb := nI_inj (a3.symm.trans b2) (by omega) (by omega)
      subst e_ja
      exact absurd b3 a4
    · exact absurd (tk_of hB a2 a3) b2
    · exact ⟨a0.trans b0.symm, a1.trans b1.symm, fun z => absurd (a0.symm.trans z) (by decide)⟩
theorem ki_mergedInto {q : AS} {B : Nat} (hI : INV q B) (i : Int32) {κ : Int32} {v : Int32} {q' : AS} (h : R_mergedInto q i κ v q') : INV q' B := by
  rcases h with ⟨a0, ja, a1, a2, a3, a4, a5⟩ | ⟨-, a1, -⟩ | ⟨-, a1, -⟩
  · rw [a4]; exact hI
  · rw [a1]; exact hI
  · rw [a1]; exact hI
def R_historyLength (q : AS) (i : Int32) (κ : Int32) (v : Int32) (q' : AS) : Prop := (κ = 0 ∧ ∃ j, j < cn q 1 ∧ i = nI j ∧ q' = q ∧ nI (cn q (100 + j)) = v) ∨ (κ = 1 ∧ q' = q ∧ ¬ isTk q i)
theorem kc_historyLength {S1 w w' : HS} {ad : AD} {q : AS} (hA : XA S1 ad (cn q 1)) (hV : XV S1 ad q) (i : Int32) {sv : HS → Int32 → HS} {r : Int32} (h : hP (fun r u => ∃ j, j < cn q 1 ∧ i = nI j ∧ S1 = u ∧ nI (cn q (100 + j)) = r) (fun E u => E = eIO ∧ S1 = u ∧ ¬ isTk q i) [eIO] S1 w sv r w') : ∃ (q' : AS) (v : Int32) (u : HS) (ad' : AD), R_historyLength q i r v q' ∧ XA u ad' (cn q' 1) ∧ XV u ad' q' ∧ ad' 0 0 = ad 0 0 ∧ Cov S1 u w ∧ ((r = 0 ∧ sv (fr S1 u w) v = w') ∨ (¬ r = 0 ∧ fr S1 u w = w')) := by
  rcases h with ⟨rfl, x, u, ⟨j, g0, g1, rfl, hval⟩, hc, hw⟩ | ⟨j9, E, hj, rfl, u, hx, hc, hw⟩
  · exact ⟨_, x, _, ad, Or.inl ⟨rfl, j, g0, g1, rfl, hval⟩, hA, hV, rfl, hc, Or.inl ⟨rfl, hw⟩⟩
  · match j9, hj with
    | 0, hj =>
      obtain rfl : eIO = E := Option.some.inj hj
      obtain ⟨-, rfl, g0⟩ := hx
      exact ⟨q, 0, _, ad, Or.inr (⟨rfl, rfl, g0⟩), hA, hV, rfl, hc, Or.inr ⟨by decide, hw⟩⟩
    | n9 + 1, hj => cases hj
theorem km_historyLength {S2 u : HS} {am : AM} {q : AS} (hA : NA S2 am (cn q 1)) (hV : NV S2 am q) (i : Int32) {r : Int32} (h : ((∃ j, j < cn q 1 ∧ i = nI j ∧ FrN S2 u am ∧ hI u 61 (am 0) = 0 ∧ nI (cn q (100 + j)) = r) ∨ (¬ isTk q i ∧ FrN S2 u am ∧ hI u 61 (am 0) = 1))) : ∃ (q' : AS) (am' : AM), R_historyLength q i (hI u 61 (am 0)) r q' ∧ NA u am' (cn q' 1) ∧ NV u am' q' ∧ am' 0 = am 0 := by
  rcases h with ⟨j, g0, g1, hF, hk, hval⟩ | ⟨g0, hF, hk⟩
  · exact ⟨_, am, Or.inl ⟨hk, j, g0, g1, rfl, hval⟩, (hF.toA hA), (hF.toV hA hV), rfl⟩
  · exact ⟨q, am, Or.inr (⟨hk, rfl, g0⟩), (hF.toA hA), (hF.toV hA hV), rfl⟩
theorem kf_historyLength {q : AS} (hB : BI q) (i : Int32) {κ κ2 : Int32} {v v2 : Int32} {q' q2 : AS} (h : R_historyLength q i κ v q') (h2 : R_historyLength q i κ2 v2 q2) : κ = κ2 ∧ q' = q2 ∧ (κ = 0 → v = v2) := by
  have hb0 := hB.b0
  have hb1 := hB.b1
  rcases h with ⟨a0, ja, a1, a2, a3, a4⟩ | ⟨a0, a1, a2⟩
  · rcases h2 with ⟨b0, jb, b1, b2, b3, b4⟩ | ⟨b0, b1, b2⟩
    · have e_ja : ja = jb := nI_inj (a2.symm.trans b2) (by omega) (by omega)
      subst e_ja
      exact ⟨a0.trans b0.symm, a3.trans b3.symm, fun _ => a4.symm.trans b4⟩
    · exact absurd (tk_of hB a1 a2) b2
  · rcases h2 with ⟨b0, jb, b1, b2, b3, b4⟩ | ⟨b0, b1, b2⟩
    · exact absurd (tk_of hB b1 b2) a2
    · exact ⟨a0.trans b0.symm, a1.trans b1.symm, fun z => absurd (a0.symm.trans z) (by decide)⟩
theorem ki_historyLength {q : AS} {B : Nat} (hI : INV q B) (i : Int32) {κ : Int32} {v : Int32} {q' : AS} (h : R_historyLength q i κ v q') : INV q' B := by
  rcases h with ⟨a0, ja, a1, a2, a3, a4⟩ | ⟨-, a1, -⟩
  · rw [a3]; exact hI
  · rw [a1]; exact hI
def R_historyAt (q : AS) (i x : Int32) (κ : Int32) (v : Int32) (q' : AS) : Prop := (κ = 0 ∧ ∃ j, j < cn q 1 ∧ i = nI j ∧ ∃ k, k < cn q (100 + j) ∧ x = nI k ∧ q' = q ∧ iO (zz q 4 j k) = v) ∨ (κ = 1 ∧ q' = q ∧ ¬ isTk q i) ∨ (κ = 2 ∧ q' = q ∧ ∃ j, j < cn q 1 ∧ i = nI j ∧ ¬ (∃ k, k < cn q (100 + j) ∧ x = nI k))
theorem kc_historyAt {S1 w w' : HS} {ad : AD} {q : AS} (hA : XA S1 ad (cn q 1)) (hV : XV S1 ad q) (i x : Int32) {sv : HS → Int32 → HS} {r : Int32} (h : hP (fun r u => ∃ j, j < cn q 1 ∧ i = nI j ∧ ∃ k, k < cn q (100 + j) ∧ x = nI k ∧ S1 = u ∧ iO (zz q 4 j k) = r) (fun E u => S1 = u ∧ ((E = eIO ∧ ¬ isTk q i) ∨ (E = eNE ∧ ∃ j, j < cn q 1 ∧ i = nI j ∧ ¬ ∃ k, k < cn q (100 + j) ∧ x = nI k))) [eIO, eNE] S1 w sv r w') : ∃ (q' : AS) (v : Int32) (u : HS) (ad' : AD), R_historyAt q i x r v q' ∧ XA u ad' (cn q' 1) ∧ XV u ad' q' ∧ ad' 0 0 = ad 0 0 ∧ Cov S1 u w ∧ ((r = 0 ∧ sv (fr S1 u w) v = w') ∨ (¬ r = 0 ∧ fr S1 u w = w')) := by
  rcases h with ⟨rfl, x, u, ⟨j, g0, g1, k, g2, g3, rfl, hval⟩, hc, hw⟩ | ⟨j9, E, hj, rfl, u, hx, hc, hw⟩
  · exact ⟨_, x, _, ad, Or.inl ⟨rfl, j, g0, g1, k, g2, g3, rfl, hval⟩, hA, hV, rfl, hc, Or.inl ⟨rfl, hw⟩⟩
  · match j9, hj with
    | 0, hj =>
      obtain rfl : eIO = E := Option.some.inj hj
      obtain ⟨rfl, hx⟩ := hx
      rcases hx with ⟨he, g0⟩ | ⟨he, -⟩
      · exact ⟨q, 0, _, ad, Or.inr (Or.inl ⟨rfl, rfl, g0⟩), hA, hV, rfl, hc, Or.inr ⟨by decide, hw⟩⟩
      · exact absurd he (by decide)
    | 1, hj =>
      obtain rfl : eNE = E := Option.some.inj hj
      obtain ⟨rfl, hx⟩ := hx
      rcases hx with ⟨he, -⟩ | ⟨he, j, g1, g2, g3⟩
      · exact absurd he (by decide)
      · exact ⟨q, 0, _, ad, Or.inr (Or.inr (⟨rfl, rfl, j, g1, g2, g3⟩)), hA, hV, rfl, hc, Or.inr ⟨by decide, hw⟩⟩
    | n9 + 2, hj => cases hj
theorem km_historyAt {S2 u : HS} {am : AM} {q : AS} (hA : NA S2 am (cn q 1)) (hV : NV S2 am q) (i x : Int32) {r : Int32} (h : ((∃ j, j < cn q 1 ∧ i = nI j ∧ ∃ k, k < cn q (100 + j) ∧ x = nI k ∧ FrN S2 u am ∧ hI u 61 (am 0) = 0 ∧ iO (zz q 4 j k) = r) ∨ (¬ isTk q i ∧ FrN S2 u am ∧ hI u 61 (am 0) = 1) ∨ (∃ j, j < cn q 1 ∧ i = nI j ∧ ¬ (∃ k, k < cn q (100 + j) ∧ x = nI k) ∧ FrN S2 u am ∧ hI u 61 (am 0) = 2))) : ∃ (q' : AS) (am' : AM), R_historyAt q i x (hI u 61 (am 0)) r q' ∧ NA u am' (cn q' 1) ∧ NV u am' q' ∧ am' 0 = am 0 := by
  rcases h with ⟨j, g0, g1, k, g2, g3, hF, hk, hval⟩ | ⟨g0, hF, hk⟩ | ⟨j, g0, g1, g2, hF, hk⟩
  · exact ⟨_, am, Or.inl ⟨hk, j, g0, g1, k, g2, g3, rfl, hval⟩, (hF.toA hA), (hF.toV hA hV), rfl⟩
  · exact ⟨q, am, Or.inr (Or.inl ⟨hk, rfl, g0⟩), (hF.toA hA), (hF.toV hA hV), rfl⟩
  · exact ⟨q, am, Or.inr (Or.inr (⟨hk, rfl, j, g0, g1, g2⟩)), (hF.toA hA), (hF.toV hA hV), rfl⟩
theorem kf_historyAt {q : AS} (hB : BI q) (i x : Int32) {κ κ2 : Int32} {v v2 : Int32} {q' q2 : AS} (h : R_historyAt q i x κ v q') (h2 : R_historyAt q i x κ2 v2 q2) : κ = κ2 ∧ q' = q2 ∧ (κ = 0 → v = v2) := by
  have hb0 := hB.b0
  have hb1 := hB.b1
  rcases h with ⟨a0, ja, a1, a2, ka, a3, a4, a5, a6⟩ | ⟨a0, a1, a2⟩ | ⟨a0, a1, ja, a2, a3, a4⟩
  · rcases h2 with ⟨b0, jb, b1, b2, kb, b3, b4, b5, b6⟩ | ⟨b0, b1, b2⟩ | ⟨b0, b1, jb, b2, b3, b4⟩
    · have e_ja : ja = jb := nI_inj (a2.symm.trans b2) (by omega) (by omega)
      subst e_ja
      have hbh := (hB.bh ja a1).1
      have hbh := (hB.bh ja a1).1
      have e_ka : ka = kb := nI_inj (a4.symm.trans b4) (by omega) (by omega)
      subst e_ka
      exact ⟨a0.trans b0.symm, a5.trans b5.symm, fun _ => a6.symm.trans b6⟩
    · exact absurd (tk_of hB a1 a2) b2
    · have e_ja : ja = jb := nI_inj (a2.symm.trans b3) (by omega) (by omega)
      subst e_ja
      exact absurd ⟨ka, a3, a4⟩ b4
  · rcases h2 with ⟨b0, jb, b1, b2, kb, b3, b4, b5, b6⟩ | ⟨b0, b1, b2⟩ | ⟨b0, b1, jb, b2, b3, b4⟩
    · exact absurd (tk_of hB b1 b2) a2
    · exact ⟨a0.trans b0.symm, a1.trans b1.symm, fun z => absurd (a0.symm.trans z) (by decide)⟩
    · exact absurd (tk_of hB b2 b3) a2
  · rcases h2 with ⟨b0, jb, b1, b2, kb, b3, b4, b5, b6⟩ | ⟨b0, b1, b2⟩ | ⟨b0, b1, jb, b2, b3, b4⟩
    · have e_ja : ja = jb := nI_inj (a3.symm.trans b2) (by omega) (by omega)
      subst e_ja
      exact absurd ⟨kb, b3, b4⟩ a4
    · exact absurd (tk_of hB a2 a3) b2
    · exact ⟨a0.trans b0.symm, a1.trans b1.symm, fun z => absurd (a0.symm.trans z) (by decide)⟩
theorem ki_historyAt {q : AS} {B : Nat} (hI : INV q B) (i x : Int32) {κ : Int32} {v : Int32} {q' : AS} (h : R_historyAt q i x κ v q') : INV q' B := by
  rcases h with ⟨a0, ja, a1, a2, ka, a3, a4, a5, a6⟩ | ⟨-, a1, -⟩ | ⟨-, a1, -⟩
  · rw [a5]; exact hI
  · rw [a1]; exact hI
  · rw [a1]; exact hI
def R_quality (q : AS) (i : Int32) (κ : Int32) (v : Int32) (q' : AS) : Prop := (κ = 0 ∧ ∃ j, j < cn q 1 ∧ i = nI j ∧ q' = q ∧ nI (quA q j) = v) ∨ (κ = 1 ∧ q' = q ∧ ¬ isTk q i)
theorem kc_quality {S1 w w' : HS} {ad : AD} {q : AS} (hA : XA S1 ad (cn q 1)) (hV : XV S1 ad q) (i : Int32) {sv : HS → Int32 → HS} {r : Int32} (h : hP (fun r u => ∃ j, j < cn q 1 ∧ i = nI j ∧ S1 = u ∧ nI (quA q j) = r) (fun E u => E = eIO ∧ S1 = u ∧ ¬ isTk q i) [eIO] S1 w sv r w') : ∃ (q' : AS) (v : Int32) (u : HS) (ad' : AD), R_quality q i r v q' ∧ XA u ad' (cn q' 1) ∧ XV u ad' q' ∧ ad' 0 0 = ad 0 0 ∧ Cov S1 u w ∧ ((r = 0 ∧ sv (fr S1 u w) v = w') ∨ (¬ r = 0 ∧ fr S1 u w = w')) := by
  rcases h with ⟨rfl, x, u, ⟨j, g0, g1, rfl, hval⟩, hc, hw⟩ | ⟨j9, E, hj, rfl, u, hx, hc, hw⟩
  · exact ⟨_, x, _, ad, Or.inl ⟨rfl, j, g0, g1, rfl, hval⟩, hA, hV, rfl, hc, Or.inl ⟨rfl, hw⟩⟩
  · match j9, hj with
    | 0, hj =>
      obtain rfl : eIO = E := Option.some.inj hj
      obtain ⟨-, rfl, g0⟩ := hx
      exact ⟨q, 0, _, ad, Or.inr (⟨rfl, rfl, g0⟩), hA, hV, rfl, hc, Or.inr ⟨by decide, hw⟩⟩
    | n9 + 1, hj => cases hj
theorem km_quality {S2 u : HS} {am : AM} {q : AS} (hA : NA S2 am (cn q 1)) (hV : NV S2 am q) (i : Int32) {r : Int32} (h : ((∃ j, j < cn q 1 ∧ i = nI j ∧ FrN S2 u am ∧ hI u 61 (am 0) = 0 ∧ nI (quA q j) = r) ∨ (¬ isTk q i ∧ FrN S2 u am ∧ hI u 61 (am 0) = 1))) : ∃ (q' : AS) (am' : AM), R_quality q i (hI u 61 (am 0)) r q' ∧ NA u am' (cn q' 1) ∧ NV u am' q' ∧ am' 0 = am 0 := by
  rcases h with ⟨j, g0, g1, hF, hk, hval⟩ | ⟨g0, hF, hk⟩
  · exact ⟨_, am, Or.inl ⟨hk, j, g0, g1, rfl, hval⟩, (hF.toA hA), (hF.toV hA hV), rfl⟩
  · exact ⟨q, am, Or.inr (⟨hk, rfl, g0⟩), (hF.toA hA), (hF.toV hA hV), rfl⟩
theorem kf_quality {q : AS} (hB : BI q) (i : Int32) {κ κ2 : Int32} {v v2 : Int32} {q' q2 : AS} (h : R_quality q i κ v q') (h2 : R_quality q i κ2 v2 q2) : κ = κ2 ∧ q' = q2 ∧ (κ = 0 → v = v2) := by
  have hb0 := hB.b0
  have hb1 := hB.b1
  rcases h with ⟨a0, ja, a1, a2, a3, a4⟩ | ⟨a0, a1, a2⟩
  · rcases h2 with ⟨b0, jb, b1, b2, b3, b4⟩ | ⟨b0, b1, b2⟩
    · have e_ja : ja = jb := nI_inj (a2.symm.trans b2) (by omega) (by omega)
      subst e_ja
      exact ⟨a0.trans b0.symm, a3.trans b3.symm, fun _ => a4.symm.trans b4⟩
    · exact absurd (tk_of hB a1 a2) b2
  · rcases h2 with ⟨b0, jb, b1, b2, b3, b4⟩ | ⟨b0, b1, b2⟩
    · exact absurd (tk_of hB b1 b2) a2
    · exact ⟨a0.trans b0.symm, a1.trans b1.symm, fun z => absurd (a0.symm.trans z) (by decide)⟩
theorem ki_quality {q : AS} {B : Nat} (hI : INV q B) (i : Int32) {κ : Int32} {v : Int32} {q' : AS} (h : R_quality q i κ v q') : INV q' B := by
  rcases h with ⟨a0, ja, a1, a2, a3, a4⟩ | ⟨-, a1, -⟩
  · rw [a3]; exact hI
  · rw [a1]; exact hI
def R_countOf (q : AS) (x : Int32) (κ : Int32) (v : Int32) (q' : AS) : Prop := (κ = 0 ∧ isSgn x ∧ q' = q ∧ nI (sgc q x (cn q 1)) = v) ∨ (κ = 1 ∧ q' = q ∧ ¬ isSgn x)
theorem kc_countOf {S1 w w' : HS} {ad : AD} {q : AS} (hA : XA S1 ad (cn q 1)) (hV : XV S1 ad q) (x : Int32) {sv : HS → Int32 → HS} {r : Int32} (h : hP (fun r u => isSgn x ∧ S1 = u ∧ nI (sgc q x (cn q 1)) = r) (fun E u => E = eIA ∧ S1 = u ∧ ¬ isSgn x) [eIA] S1 w sv r w') : ∃ (q' : AS) (v : Int32) (u : HS) (ad' : AD), R_countOf q x r v q' ∧ XA u ad' (cn q' 1) ∧ XV u ad' q' ∧ ad' 0 0 = ad 0 0 ∧ Cov S1 u w ∧ ((r = 0 ∧ sv (fr S1 u w) v = w') ∨ (¬ r = 0 ∧ fr S1 u w = w')) := by
  rcases h with ⟨rfl, x, u, ⟨g0, rfl, hval⟩, hc, hw⟩ | ⟨j9, E, hj, rfl, u, hx, hc, hw⟩
  · exact ⟨_, x, _, ad, Or.inl ⟨rfl, g0, rfl, hval⟩, hA, hV, rfl, hc, Or.inl ⟨rfl, hw⟩⟩
  · match j9, hj with
    | 0, hj =>
      obtain rfl : eIA = E := Option.some.inj hj
      obtain ⟨-, rfl, g0⟩ := hx
      exact ⟨q, 0, _, ad, Or.inr (⟨rfl, rfl, g0⟩), hA, hV, rfl, hc, Or.inr ⟨by decide, hw⟩⟩
    | n9 + 1, hj => cases hj
theorem km_countOf {S2 u : HS} {am : AM} {q : AS} (hA : NA S2 am (cn q 1)) (hV : NV S2 am q) (x : Int32) {r : Int32} (h : ((isSgn x ∧ FrN S2 u am ∧ hI u 61 (am 0) = 0 ∧ nI (sgc q x (cn q 1)) = r) ∨ (¬ isSgn x ∧ FrN S2 u am ∧ hI u 61 (am 0) = 1))) : ∃ (q' : AS) (am' : AM), R_countOf q x (hI u 61 (am 0)) r q' ∧ NA u am' (cn q' 1) ∧ NV u am' q' ∧ am' 0 = am 0 := by
  rcases h with ⟨g0, hF, hk, hval⟩ | ⟨g0, hF, hk⟩
  · exact ⟨_, am, Or.inl ⟨hk, g0, rfl, hval⟩, (hF.toA hA), (hF.toV hA hV), rfl⟩
  · exact ⟨q, am, Or.inr (⟨hk, rfl, g0⟩), (hF.toA hA), (hF.toV hA hV), rfl⟩
theorem kf_countOf {q : AS} (hB : BI q) (x : Int32) {κ κ2 : Int32} {v v2 : Int32} {q' q2 : AS} (h : R_countOf q x κ v q') (h2 : R_countOf q x κ2 v2 q2) : κ = κ2 ∧ q' = q2 ∧ (κ = 0 → v = v2) := by
  have hb0 := hB.b0
  have hb1 := hB.b1
  rcases h with ⟨a0, a1, a2, a3⟩ | ⟨a0, a1, a2⟩
  · rcases h2 with ⟨b0, b1, b2, b3⟩ | ⟨b0, b1, b2⟩
    · exact ⟨a0.trans b0.symm, a2.trans b2.symm, fun _ => a3.symm.trans b3⟩
    · exact absurd a1 b2
  · rcases h2 with ⟨b0, b1, b2, b3⟩ | ⟨b0, b1, b2⟩
    · exact absurd b1 a2
    · exact ⟨a0.trans b0.symm, a1.trans b1.symm, fun z => absurd (a0.symm.trans z) (by decide)⟩
theorem ki_countOf {q : AS} {B : Nat} (hI : INV q B) (x : Int32) {κ : Int32} {v : Int32} {q' : AS} (h : R_countOf q x κ v q') : INV q' B := by
  rcases h with ⟨a0, a1, a2, a3⟩ | ⟨-, a1, -⟩
  · rw [a2]; exact hI
  · rw [a1]; exact hI
def R_nearest (q : AS) (t x y : Int32) (κ : Int32) (v : Int32) (q' : AS) : Prop := (κ = 0 ∧ (isAk t ∧ isPl x ∧ isPl y) ∧ ∃ b, (nst q t.toInt x.toInt y.toInt (cn q 1)) = some b ∧ q' = q ∧ nI b = v) ∨ (κ = 1 ∧ q' = q ∧ ¬ (isAk t ∧ isPl x ∧ isPl y)) ∨ (κ = 2 ∧ q' = q ∧ (isAk t ∧ isPl x ∧ isPl y) ∧ (nst q t.toInt x.toInt y.toInt (cn q 1)) = none)
theorem kc_nearest {S1 w w' : HS} {ad : AD} {q : AS} (hA : XA S1 ad (cn q 1)) (hV : XV S1 ad q) (t x y : Int32) {sv : HS → Int32 → HS} {r : Int32} (h : hP (fun r u => (isAk t ∧ isPl x ∧ isPl y) ∧ ∃ b, (nst q t.toInt x.toInt y.toInt (cn q 1)) = some b ∧ S1 = u ∧ nI b = r) (fun E u => S1 = u ∧ ((E = eIA ∧ ¬ (isAk t ∧ isPl x ∧ isPl y)) ∨ (E = eNE ∧ (isAk t ∧ isPl x ∧ isPl y) ∧ (nst q t.toInt x.toInt y.toInt (cn q 1)) = none))) [eIA, eNE] S1 w sv r w') : ∃ (q' : AS) (v : Int32) (u : HS) (ad' : AD), R_nearest q t x y r v q' ∧ XA u ad' (cn q' 1) ∧ XV u ad' q' ∧ ad' 0 0 = ad 0 0 ∧ Cov S1 u w ∧ ((r = 0 ∧ sv (fr S1 u w) v = w') ∨ (¬ r = 0 ∧ fr S1 u w = w')) := by
  rcases h with ⟨rfl, x, u, ⟨g0, b, g1, rfl, hval⟩, hc, hw⟩ | ⟨j9, E, hj, rfl, u, hx, hc, hw⟩
  · exact ⟨_, x, _, ad, Or.inl ⟨rfl, g0, b, g1, rfl, hval⟩, hA, hV, rfl, hc, Or.inl ⟨rfl, hw⟩⟩
  · match j9, hj with
    | 0, hj =>
      obtain rfl : eIA = E := Option.some.inj hj
      obtain ⟨rfl, hx⟩ := hx
      rcases hx with ⟨he, g0⟩ | ⟨he, -⟩
      · exact ⟨q, 0, _, ad, Or.inr (Or.inl ⟨rfl, rfl, g0⟩), hA, hV, rfl, hc, Or.inr ⟨by decide, hw⟩⟩
      · exact absurd he (by decide)
    | 1, hj =>
      obtain rfl : eNE = E := Option.some.inj hj
      obtain ⟨rfl, hx⟩ := hx
      rcases hx with ⟨he, -⟩ | ⟨he, g0, g1⟩
      · exact absurd he (by decide)
      · exact ⟨q, 0, _, ad, Or.inr (Or.inr (⟨rfl, rfl, g0, g1⟩)), hA, hV, rfl, hc, Or.inr ⟨by decide, hw⟩⟩
    | n9 + 2, hj => cases hj
theorem km_nearest {S2 u : HS} {am : AM} {q : AS} (hA : NA S2 am (cn q 1)) (hV : NV S2 am q) (t x y : Int32) {r : Int32} (h : (((isAk t ∧ isPl x ∧ isPl y) ∧ ∃ b, (nst q t.toInt x.toInt y.toInt (cn q 1)) = some b ∧ FrN S2 u am ∧ hI u 61 (am 0) = 0 ∧ nI b = r) ∨ (¬ (isAk t ∧ isPl x ∧ isPl y) ∧ FrN S2 u am ∧ hI u 61 (am 0) = 1) ∨ ((isAk t ∧ isPl x ∧ isPl y) ∧ (nst q t.toInt x.toInt y.toInt (cn q 1)) = none ∧ FrN S2 u am ∧ hI u 61 (am 0) = 2))) : ∃ (q' : AS) (am' : AM), R_nearest q t x y (hI u 61 (am 0)) r q' ∧ NA u am' (cn q' 1) ∧ NV u am' q' ∧ am' 0 = am 0 := by
  rcases h with ⟨g0, b, g1, hF, hk, hval⟩ | ⟨g0, hF, hk⟩ | ⟨g0, g1, hF, hk⟩
  · exact ⟨_, am, Or.inl ⟨hk, g0, b, g1, rfl, hval⟩, (hF.toA hA), (hF.toV hA hV), rfl⟩
  · exact ⟨q, am, Or.inr (Or.inl ⟨hk, rfl, g0⟩), (hF.toA hA), (hF.toV hA hV), rfl⟩
  · exact ⟨q, am, Or.inr (Or.inr (⟨hk, rfl, g0, g1⟩)), (hF.toA hA), (hF.toV hA hV), rfl⟩
theorem kf_nearest {q : AS} (hB : BI q) (t x y : Int32) {κ κ2 : Int32} {v v2 : Int32} {q' q2 : AS} (h : R_nearest q t x y κ v q') (h2 : R_nearest q t x y κ2 v2 q2) : κ = κ2 ∧ q' = q2 ∧ (κ = 0 → v = v2) := by
  have hb0 := hB.b0
  have hb1 := hB.b1
  rcases h with ⟨a0, a1, ba, a2, a3, a4⟩ | ⟨a0, a1, a2⟩ | ⟨a0, a1, a2, a3⟩
  · rcases h2 with ⟨b0, b1, bb, b2, b3, b4⟩ | ⟨b0, b1, b2⟩ | ⟨b0, b1, b2, b3⟩
    · have eb := Option.some.inj (a2.symm.trans b2)
      subst eb
      exact ⟨a0.trans b0.symm, a3.trans b3.symm, fun _ => a4.symm.trans b4⟩
    · exact absurd a1 b2
    · exact absurd (a2.symm.trans b3) (by simp)
  · rcases h2 with ⟨b0, b1, bb, b2, b3, b4⟩ | ⟨b0, b1, b2⟩ | ⟨b0, b1, b2, b3⟩
    · exact absurd b1 a2
    · exact ⟨a0.trans b0.symm, a1.trans b1.symm, fun z => absurd (a0.symm.trans z) (by decide)⟩
    · exact absurd b2 a2
  · rcases h2 with ⟨b0, b1, bb, b2, b3, b4⟩ | ⟨b0, b1, b2⟩ | ⟨b0, b1, b2, b3⟩
    · exact absurd (b2.symm.trans a3) (by simp)
    · exact absurd a2 b2
    · exact ⟨a0.trans b0.symm, a1.trans b1.symm, fun z => absurd (a0.symm.trans z) (by decide)⟩
theorem ki_nearest {q : AS} {B : Nat} (hI : INV q B) (t x y : Int32) {κ : Int32} {v : Int32} {q' : AS} (h : R_nearest q t x y κ v q') : INV q' B := by
  rcases h with ⟨a0, a1, ba, a2, a3, a4⟩ | ⟨-, a1, -⟩ | ⟨-, a1, -⟩
  · rw [a3]; exact hI
  · rw [a1]; exact hI
  · rw [a1]; exact hI
def R_takenShare (q : AS) (κ : Int32) (v : UInt32) (q' : AS) : Prop := (κ = 0 ∧ ¬ nI (cn q 2) = 0 ∧ q' = q ∧ (FP.fdiv (FP.i2f (nI (sgc q 104 (cn q 1)))) (FP.i2f (nI (cn q 2)))) = v) ∨ (κ = 1 ∧ q' = q ∧ nI (cn q 2) = 0)
theorem kc_takenShare {S1 w w' : HS} {ad : AD} {q : AS} (hA : XA S1 ad (cn q 1)) (hV : XV S1 ad q) {sv : HS → UInt32 → HS} {r : Int32} (h : hP (fun r u => ¬ nI (cn q 2) = 0 ∧ S1 = u ∧ (FP.fdiv (FP.i2f (nI (sgc q 104 (cn q 1)))) (FP.i2f (nI (cn q 2)))) = r) (fun E u => E = eAR ∧ S1 = u ∧ nI (cn q 2) = 0) [eAR] S1 w sv r w') : ∃ (q' : AS) (v : UInt32) (u : HS) (ad' : AD), R_takenShare q r v q' ∧ XA u ad' (cn q' 1) ∧ XV u ad' q' ∧ ad' 0 0 = ad 0 0 ∧ Cov S1 u w ∧ ((r = 0 ∧ sv (fr S1 u w) v = w') ∨ (¬ r = 0 ∧ fr S1 u w = w')) := by
  rcases h with ⟨rfl, x, u, ⟨g0, rfl, hval⟩, hc, hw⟩ | ⟨j9, E, hj, rfl, u, hx, hc, hw⟩
  · exact ⟨_, x, _, ad, Or.inl ⟨rfl, g0, rfl, hval⟩, hA, hV, rfl, hc, Or.inl ⟨rfl, hw⟩⟩
  · match j9, hj with
    | 0, hj =>
      obtain rfl : eAR = E := Option.some.inj hj
      obtain ⟨-, rfl, g0⟩ := hx
      exact ⟨q, 0, _, ad, Or.inr (⟨rfl, rfl, g0⟩), hA, hV, rfl, hc, Or.inr ⟨by decide, hw⟩⟩
    | n9 + 1, hj => cases hj
theorem km_takenShare {S2 u : HS} {am : AM} {q : AS} (hA : NA S2 am (cn q 1)) (hV : NV S2 am q) {r : UInt32} (h : ((¬ nI (cn q 2) = 0 ∧ FrN S2 u am ∧ hI u 61 (am 0) = 0 ∧ (FP.fdiv (FP.i2f (nI (sgc q 104 (cn q 1)))) (FP.i2f (nI (cn q 2)))) = r) ∨ (nI (cn q 2) = 0 ∧ FrN S2 u am ∧ hI u 61 (am 0) = 1))) : ∃ (q' : AS) (am' : AM), R_takenShare q (hI u 61 (am 0)) r q' ∧ NA u am' (cn q' 1) ∧ NV u am' q' ∧ am' 0 = am 0 := by
  rcases h with ⟨g0, hF, hk, hval⟩ | ⟨g0, hF, hk⟩
  · exact ⟨_, am, Or.inl ⟨hk, g0, rfl, hval⟩, (hF.toA hA), (hF.toV hA hV), rfl⟩
  · exact ⟨q, am, Or.inr (⟨hk, rfl, g0⟩), (hF.toA hA), (hF.toV hA hV), rfl⟩
theorem kf_takenShare {q : AS} (hB : BI q) {κ κ2 : Int32} {v v2 : UInt32} {q' q2 : AS} (h : R_takenShare q κ v q') (h2 : R_takenShare q κ2 v2 q2) : κ = κ2 ∧ q' = q2 ∧ (κ = 0 → v = v2) := by
  have hb0 := hB.b0
  have hb1 := hB.b1
  rcases h with ⟨a0, a1, a2, a3⟩ | ⟨a0, a1, a2⟩
  · rcases h2 with ⟨b0, b1, b2, b3⟩ | ⟨b0, b1, b2⟩
    · exact ⟨a0.trans b0.symm, a2.trans b2.symm, fun _ => a3.symm.trans b3⟩
    · exact absurd b2 a1
  · rcases h2 with ⟨b0, b1, b2, b3⟩ | ⟨b0, b1, b2⟩
    · exact absurd a2 b1
    · exact ⟨a0.trans b0.symm, a1.trans b1.symm, fun z => absurd (a0.symm.trans z) (by decide)⟩
theorem ki_takenShare {q : AS} {B : Nat} (hI : INV q B) {κ : Int32} {v : UInt32} {q' : AS} (h : R_takenShare q κ v q') : INV q' B := by
  rcases h with ⟨a0, a1, a2, a3⟩ | ⟨-, a1, -⟩
  · rw [a2]; exact hI
  · rw [a1]; exact hI
def R_meanHits (q : AS) (κ : Int32) (v : UInt64) (q' : AS) : Prop := (κ = 0 ∧ ¬ nI (lcn q) = 0 ∧ q' = q ∧ (FP.ddiv (FP.i2d (iO (hsm q (cn q 1)))) (FP.i2d (nI (lcn q)))) = v) ∨ (κ = 1 ∧ q' = q ∧ nI (lcn q) = 0)
theorem kc_meanHits {S1 w w' : HS} {ad : AD} {q : AS} (hA : XA S1 ad (cn q 1)) (hV : XV S1 ad q) {sv : HS → UInt64 → HS} {r : Int32} (h : hP (fun r u => ¬ nI (lcn q) = 0 ∧ S1 = u ∧ (FP.ddiv (FP.i2d (iO (hsm q (cn q 1)))) (FP.i2d (nI (lcn q)))) = r) (fun E u => E = eAR ∧ S1 = u ∧ nI (lcn q) = 0) [eAR] S1 w sv r w') : ∃ (q' : AS) (v : UInt64) (u : HS) (ad' : AD), R_meanHits q r v q' ∧ XA u ad' (cn q' 1) ∧ XV u ad' q' ∧ ad' 0 0 = ad 0 0 ∧ Cov S1 u w ∧ ((r = 0 ∧ sv (fr S1 u w) v = w') ∨ (¬ r = 0 ∧ fr S1 u w = w')) := by
  rcases h with ⟨rfl, x, u, ⟨g0, rfl, hval⟩, hc, hw⟩ | ⟨j9, E, hj, rfl, u, hx, hc, hw⟩
  · exact ⟨_, x, _, ad, Or.inl ⟨rfl, g0, rfl, hval⟩, hA, hV, rfl, hc, Or.inl ⟨rfl, hw⟩⟩
  · match j9, hj with
    | 0, hj =>
      obtain rfl : eAR = E := Option.some.inj hj
      obtain ⟨-, rfl, g0⟩ := hx
      exact ⟨q, 0, _, ad, Or.inr (⟨rfl, rfl, g0⟩), hA, hV, rfl, hc, Or.inr ⟨by decide, hw⟩⟩
    | n9 + 1, hj => cases hj
theorem km_meanHits {S2 u : HS} {am : AM} {q : AS} (hA : NA S2 am (cn q 1)) (hV : NV S2 am q) {r : UInt64} (h : ((¬ nI (lcn q) = 0 ∧ FrN S2 u am ∧ hI u 61 (am 0) = 0 ∧ (FP.ddiv (FP.i2d (iO (hsm q (cn q 1)))) (FP.i2d (nI (lcn q)))) = r) ∨ (nI (lcn q) = 0 ∧ FrN S2 u am ∧ hI u 61 (am 0) = 1))) : ∃ (q' : AS) (am' : AM), R_meanHits q (hI u 61 (am 0)) r q' ∧ NA u am' (cn q' 1) ∧ NV u am' q' ∧ am' 0 = am 0 := by
  rcases h with ⟨g0, hF, hk, hval⟩ | ⟨g0, hF, hk⟩
  · exact ⟨_, am, Or.inl ⟨hk, g0, rfl, hval⟩, (hF.toA hA), (hF.toV hA hV), rfl⟩
  · exact ⟨q, am, Or.inr (⟨hk, rfl, g0⟩), (hF.toA hA), (hF.toV hA hV), rfl⟩
theorem kf_meanHits {q : AS} (hB : BI q) {κ κ2 : Int32} {v v2 : UInt64} {q' q2 : AS} (h : R_meanHits q κ v q') (h2 : R_meanHits q κ2 v2 q2) : κ = κ2 ∧ q' = q2 ∧ (κ = 0 → v = v2) := by
  have hb0 := hB.b0
  have hb1 := hB.b1
  rcases h with ⟨a0, a1, a2, a3⟩ | ⟨a0, a1, a2⟩
  · rcases h2 with ⟨b0, b1, b2, b3⟩ | ⟨b0, b1, b2⟩
    · exact ⟨a0.trans b0.symm, a2.trans b2.symm, fun _ => a3.symm.trans b3⟩
    · exact absurd b2 a1
  · rcases h2 with ⟨b0, b1, b2, b3⟩ | ⟨b0, b1, b2⟩
    · exact absurd a2 b1
    · exact ⟨a0.trans b0.symm, a1.trans b1.symm, fun z => absurd (a0.symm.trans z) (by decide)⟩
theorem ki_meanHits {q : AS} {B : Nat} (hI : INV q B) {κ : Int32} {v : UInt64} {q' : AS} (h : R_meanHits q κ v q') : INV q' B := by
  rcases h with ⟨a0, a1, a2, a3⟩ | ⟨-, a1, -⟩
  · rw [a2]; exact hI
  · rw [a1]; exact hI
