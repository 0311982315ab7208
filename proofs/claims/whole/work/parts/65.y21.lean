theorem NV.lay {S : HS} {am : AM} {q : AS} {t k : Nat} {x : Int32} {v : Int} (hA : NA S am (cn q 1)) (hV : NV S am q) (hk : k < 9) (hx : x = iO v) : NV (tI S (am 3) (9 * t + k) x) am (zs q 3 t k v) := by
  have z1 : ∀ i, i ≠ 3 → ∀ j' k', zz (zs q 3 t k v) i j' k' = zz q i j' k' := fun i hi j' k' => by rw [zz_zs, if_neg (fun z => hi z.1)]
  have a : ∀ i, i < 12 → i ≠ 3 → aI (tI S (am 3) (9 * t + k) x) (am i) = aI S (am i) := fun i hi h3 => aI_tI2 (fun z => h3 (hA.jj i hi 3 (by decide) z))
  have hr : ∀ t', t' < cn q 1 → aI (tI S (am 3) (9 * t + k) x) (am (20 + t')) = aI S (am (20 + t')) := fun t' ht => aI_tI2 (ne_kinds (hA.kh t' ht) hA.k3 (by decide))
  refine ⟨hV.v44, hV.v50, by rw [z1 0 (by decide)]; exact hV.v51, by rw [z1 0 (by decide)]; exact hV.v52, by rw [z1 0 (by decide)]; exact hV.v53, by rw [z1 0 (by decide)]; exact hV.v54, by rw [z1 0 (by decide)]; exact hV.v55, hV.v56, hV.v57,
    fun i hi => by rw [a 2 (by decide) (by decide)]; exact hV.pm i hi, fun i hi h k' hk' => by rw [a 1 (by decide) (by decide), z1 1 (by decide)]; exact hV.p1 i hi h k' hk', fun i hi h k' hk' => by rw [a 1 (by decide) (by decide), z1 1 (by decide)]; exact hV.p2 i hi h k' hk', fun t' ht' k' hk' => ?_, fun t' ht' => by rw [a 5 (by decide) (by decide)]; exact hV.hm t' ht', fun t' ht' j hj => by rw [hr t' ht', z1 4 (by decide)]; exact hV.hr t' ht' j hj, fun t' ht' => hV.hl t' ht',
    fun r hr' => by rw [a 6 (by decide) (by decide), z1 2 (by decide)]; exact hV.t6 r hr', fun r hr' => by rw [a 7 (by decide) (by decide), z1 2 (by decide)]; exact hV.t7 r hr', fun r hr' => by rw [a 8 (by decide) (by decide), z1 2 (by decide)]; exact hV.t8 r hr'⟩
  rw [aI_tI1, zz_zs]
  by_cases e : t' = t ∧ k' = k
  · rw [if_pos (by rw [e.1, e.2]), if_pos ⟨rfl, e.1, e.2⟩, hx]
  · rw [if_neg (fun z => e (by omega)), if_neg (fun z => e z.2)]
    exact hV.m t' ht' k' hk'
theorem pos_BI {q : AS} {t : Nat} {v : Int} (hB : BI q) (ht : t < cn q 1) (h : bd v (-24000) 24000) : BI (zs q 3 t 1 v) := by
  have e : ∀ k, k ≠ 1 → zz (zs q 3 t 1 v) 3 t k = zz q 3 t k := fun k hk => by rw [zz_zs, if_neg (fun z => hk z.2.2)]
  have e1 : zz (zs q 3 t 1 v) 3 t 1 = v := by rw [zz_zs, if_pos ⟨rfl, rfl, rfl⟩]
  obtain ⟨b0, b1, b2, b3, b4⟩ := hB.bt t ht
  refine hB.trk QT.zs ⟨⟨by rw [e 0 (by decide)]; exact b0, by rw [e1]; exact h, by rw [e 2 (by decide)]; exact b2, by rw [e 3 (by decide)]; exact b3, by rw [e 4 (by decide)]; exact b4⟩, by rw [e 7 (by decide)]; exact hB.bs t ht, hB.bh t ht⟩ ?_
  show lcn (zs q 3 t 1 v) ≤ 6
  rw [(lcn_same (q := q) QT.zs (e 7 (by decide))).2]
  exact hB.bv
theorem ahd_z1 {q : AS} {t : Nat} {v tm : Int} : ahd (zs q 3 t 1 v) t tm 1 = ahd q t tm 1 := by
  unfold ahd
  rw [zz_zs, zz_zs, zz_zs, if_neg (by omega), if_neg (by omega), if_neg (by omega)]
theorem rsd_z1 {q : AS} {r t : Nat} {v : Int} : rsd (zs q 3 t 1 v) r t 1 = rsd q r t 1 := by
  unfold rsd
  rw [show zz (zs q 3 t 1 v) 2 r 0 = zz q 2 r 0 from rfl, ahd_z1]
  rfl
theorem pos_L {q : AS} (hB : BI q) {r t ax : Nat} (h : bd (rsd q r t ax) (-8000) 8000) : lO (ahd q t (zz q 2 r 0) ax) + lO (rsd q r t ax) * (iO (zz q 0 0 1)).toInt64 / 16 = lO (posA q r t ax) := by
  have hg := hB.g1
  have hm := gain_bd h (by unfold bd at *; omega : bd (zz q 0 0 1) 0 16)
  rw [iO_l (by unfold bd at *; omega) (by unfold bd at *; omega), lO_mul, show (16 : Int64) = lO 16 from rfl, lO_div (by unfold bd at *; omega) (by unfold bd at *; omega) (by decide) (by decide) (by decide), lO_add]
  rfl
theorem vel_L {q : AS} (hB : BI q) {r t ax : Nat} (hr : r < cn q 0) (ht : t < cn q 1) (hax : ax < 2) (h : bd (rsd q r t ax) (-8000) 8000) (hp : 0 < zz q 2 r 0 - zz q 3 t 0) (v : Int64) (hv : v = (iO (zz q 3 t (3 + ax))).toInt64 + lO (rsd q r t ax) * (iO (zz q 0 0 2)).toInt64 / (16 * (iO (zz q 2 r 0 - zz q 3 t 0)).toInt64)) : (if (if v < 1600 then v else 1600) < (-1600) then (-1600) else (if v < 1600 then v else 1600)) = lO (velA q r t ax) := by
  have hg := hB.g2
  have b0 := (hB.br r hr).1
  obtain ⟨bt0, b1, b2, b3, b4⟩ := hB.bt t ht
  have hx : bd (zz q 3 t (3 + ax)) (-1600) 1600 := by
    rcases (show ax = 0 ∨ ax = 1 by omega) with rfl | rfl
    · exact b3
    · exact b4
  have hm := gain_bd h hg
  have hd := tdiv_bd (a := rsd q r t ax * zz q 0 0 2) (b := 16 * (zz q 2 r 0 - zz q 3 t 0)) hm (by omega)
  rw [iO_l (by unfold bd at *; omega) (by unfold bd at *; omega), iO_l (by unfold bd at *; omega) (by unfold bd at *; omega), iO_l (by unfold bd at *; omega) (by unfold bd at *; omega), lO_mul, show (16 : Int64) = lO 16 from rfl, lO_mul, lO_div (by unfold bd at *; omega) (by unfold bd at *; omega) (by unfold bd at *; omega) (by unfold bd at *; omega) (by omega), lO_add] at hv
  unfold velA
  rw [if_pos hp]
  have hxx : bd (zz q 3 t (3 + ax) + (rsd q r t ax * zz q 0 0 2).tdiv (16 * (zz q 2 r 0 - zz q 3 t 0))) (-200000) 200000 := by unfold bd at *; omega
  revert hv hxx
  generalize zz q 3 t (3 + ax) + (rsd q r t ax * zz q 0 0 2).tdiv (16 * (zz q 2 r 0 - zz q 3 t 0)) = x
  rintro rfl hxx
  unfold clampV
  dsimp only
  have a1 : (lO x < 1600) ↔ x < 1600 := by rw [show (1600 : Int64) = lO 1600 from rfl]; exact lO_lt (by unfold bd at *; omega) (by unfold bd at *; omega) (by decide) (by decide)
  by_cases c1 : x < 1600
  · rw [if_pos (a1.mpr c1), if_pos c1]
    have a2 : (lO x < -1600) ↔ x < -1600 := by rw [show (-1600 : Int64) = lO (-1600) from rfl]; exact lO_lt (by unfold bd at *; omega) (by unfold bd at *; omega) (by decide) (by decide)
    by_cases c2 : x < -1600
    · rw [if_pos (a2.mpr c2), if_neg (by omega)]; rfl
    · rw [if_neg (fun z => c2 (a2.mp z))]
      by_cases c3 : -1600 < x
      · rw [if_pos c3]
      · rw [if_neg c3]
        congr 1
        omega
  · rw [if_neg (fun z => c1 (a1.mp z)), if_neg c1]
    rfl
theorem vel_0 {q : AS} (hB : BI q) {r t ax : Nat} (hr : r < cn q 0) (ht : t < cn q 1) (hax : ax < 2) (hp : ¬ 0 < zz q 2 r 0 - zz q 3 t 0) : (iO (zz q 3 t (3 + ax))).toInt64 = lO (velA q r t ax) := by
  obtain ⟨bt0, b1, b2, b3, b4⟩ := hB.bt t ht
  have hx : bd (zz q 3 t (3 + ax)) (-1600) 1600 := by
    rcases (show ax = 0 ∨ ax = 1 by omega) with rfl | rfl
    · exact b3
    · exact b4
  unfold velA
  rw [if_neg hp]
  exact iO_l (by unfold bd at *; omega) (by unfold bd at *; omega)
theorem ps_pos {q : AS} (hB : BI q) {r t : Nat} (hr : r < cn q 0) (ht : t < cn q 1) : iO (zz q 2 r 0 - zz q 3 t 0) ≤ 0 ↔ ¬ 0 < zz q 2 r 0 - zz q 3 t 0 := by
  have b0 := (hB.br r hr).1
  have bt0 := (hB.bt t ht).1
  rw [show (0 : Int32) = iO 0 from rfl, iO_le (by unfold bd at *; omega) (by unfold bd at *; omega) (by decide) (by decide)]
  omega
theorem ps_ne {q : AS} (hB : BI q) {r t : Nat} (hr : r < cn q 0) (ht : t < cn q 1) (hp : 0 < zz q 2 r 0 - zz q 3 t 0) : ¬ (16 : Int64) * (iO (zz q 2 r 0 - zz q 3 t 0)).toInt64 = 0 := by
  have b0 := (hB.br r hr).1
  have bt0 := (hB.bt t ht).1
  rw [iO_l (by unfold bd at *; omega) (by unfold bd at *; omega), show (16 : Int64) = lO 16 from rfl, lO_mul, show (0 : Int64) = lO 0 from rfl, lO_eq (by unfold bd at *; omega) (by unfold bd at *; omega) (by decide) (by decide)]
  omega
theorem zs_flw (q : AS) (r t : Nat) : zs (zs (zs (zs (zs (zs (zs q 3 t 1 (posA q r t 0)) 3 t 2 (posA q r t 1)) 3 t 3 (velA q r t 0)) 3 t 4 (velA q r t 1)) 3 t 0 (zz q 2 r 0)) 3 t 5 (zz q 3 t 5 + 1)) 3 t 6 0 = rwA q t (flwR q r t) := by
  refine Prod.ext rfl ?_
  funext i j k
  show (if i = 3 ∧ j = t ∧ k = 6 then (0 : Int) else if i = 3 ∧ j = t ∧ k = 5 then zz q 3 t 5 + 1 else if i = 3 ∧ j = t ∧ k = 0 then zz q 2 r 0 else if i = 3 ∧ j = t ∧ k = 4 then velA q r t 1 else if i = 3 ∧ j = t ∧ k = 3 then velA q r t 0 else if i = 3 ∧ j = t ∧ k = 2 then posA q r t 1 else if i = 3 ∧ j = t ∧ k = 1 then posA q r t 0 else zz q i j k) = (if i = 3 ∧ j = t then flwR q r t k else zz q i j k)
  by_cases h : i = 3 ∧ j = t
  · rw [if_pos (c := (i = 3 ∧ j = t)) h]
    obtain ⟨hi, hj⟩ := h
    match k with
    | 0 => simp [flwR, hi, hj]
    | 1 => simp [flwR, hi, hj]
    | 2 => simp [flwR, hi, hj]
    | 3 => simp [flwR, hi, hj]
    | 4 => simp [flwR, hi, hj]
    | 5 => simp [flwR, hi, hj]
    | 6 => simp [flwR, hi, hj]
    | k + 7 => simp [flwR, hi, hj]
  · rw [if_neg (fun z => h ⟨z.1, z.2.1⟩), if_neg (fun z => h ⟨z.1, z.2.1⟩), if_neg (fun z => h ⟨z.1, z.2.1⟩), if_neg (fun z => h ⟨z.1, z.2.1⟩), if_neg (fun z => h ⟨z.1, z.2.1⟩), if_neg (fun z => h ⟨z.1, z.2.1⟩), if_neg (fun z => h ⟨z.1, z.2.1⟩), if_neg h]
/-- what a step of 'process' leaves as it was -/
def FrP (S T : HS) (am : AM) : Prop := hI T 61 (am 0) = hI S 61 (am 0) ∧ aI T (am 10) = aI S (am 10)
theorem FrP.rf {S : HS} {am : AM} : FrP S S am := ⟨rfl, rfl⟩
theorem SGB.z3 {q : AS} {t k : Nat} {v : Int} (h : SGB q) : SGB (zs q 3 t k v) := h.same (fun _ => rfl) z4_zs
theorem NA.apt {S : HS} {am : AM} {n i j : Nat} (h : NA S am n) (hi : i < 12) (hj : j < 12) (e : i ≠ j) : am i ≠ am j := fun z => e (h.jj i hi j hj z)
set_option maxRecDepth 100000 in
set_option maxHeartbeats 4000000 in
theorem sg_X5_changes {l : Launch} {pP : Program} {eE : Env} {sS : State} {mM : MethodId} {aA : Array Value} {bB : List Frame} {tT : Method} {cC : Code} {G : GT} {A : Nat → Prop} {Q : State → Prop} (S : HS) (am : AM) (q : AS) (r : Nat) (t : Nat) (hr : r < cn q 0) (h04 : cn q 0 ≤ 4) (hB : BI q) (hA : NA S am (cn q 1)) (hV : NV S am (zs (zs q 3 t 1 (posA q r t 0)) 3 t 2 (posA q r t 1))) (hSG : SGB q) (ht : t < cn q 1) (hc5 : cn q (100 + t) ≤ 330) (hm0 : aI S (am 11) 0 = iO (velA q r t 0)) (hm1 : aI S (am 11) 1 = iO (velA q r t 1))  (C : Cx pP l eE (rmD 8 1 660) sS mM aA bB tT cC cX5_changes 11 RX5 G A) (kk : ∀ (u : HS) (am2 : AM), (∀ i, i < 20 → am2 i = am i) → NA u am2 (cn q 1) → NV u am2 (flwA q r t) → FrP S u am → V pP l eE (rmD 8 1 660) sS mM aA bB tT cC 11 G A u (0 + 1) (0 + 660) Q 206 [(0, .ref (am 0)), (1, .int (nI t)), (2, .int (nI r))] []) : V pP l eE (rmD 8 1 660) sS mM aA bB tT cC 11 G A S 0 0 Q 141 [(0, .ref (am 0)), (1, .int (nI t)), (2, .int (nI r))] [] := by
  have hA2 := hA
  have hV2 := hV
  have n3_11 : am 11 ≠ am 3 := hA.apt (by decide) (by decide) (by decide)
  have n3_10 : am 10 ≠ am 3 := hA.apt (by decide) (by decide) (by decide)
  refine v_aload_n C 0 rfl rfl dX5_changes_141 ?_
  refine v_iload_n C 1 rfl rfl dX5_changes_142 ?_
  refine v_iconst C 3 (by decide) dX5_changes_143 ?_
  refine v_aload_n C 0 rfl rfl dX5_changes_144 ?_
  refine v_getR C (am 11) fl_RX5_59 hA.k0 hA.r62 dX5_changes_145 ?_
  refine v_iconst C 0 (by decide) dX5_changes_148 ?_
  refine v_iald C (iO (velA q r t 0)) hA.k11 (vpi hA.n11 (show vp_in (nI 0) 2 from vp_in_nI (by decide) (by decide))) (by rw [show (0 : Int32).toNatClampNeg = 0 from rfl]; exact hm0) dX5_changes_149 ?_
  refine v_callVv C (st := []) [.int (nI t), .int 3, .int (iO (velA q r t 0))] (c_X5_lays l S (iO (velA q r t 0)) am (cn q 1) t 3 (by have := (hA2).hn; omega) (by omega) hA2) ml_RX5_158 mi_yX5_lays hA.k0 (by decide) (by decide +kernel) rfl (Nat.le_of_ble_eq_true rfl) (Nat.le_of_ble_eq_true rfl) (Nat.le_of_ble_eq_true rfl) (Nat.le_of_ble_eq_true rfl) (Nat.le_of_ble_eq_true rfl) dX5_changes_150 (fun u h => ?_) _ rfl
  subst h
  have hA3 : NA (tI S (am 3) (9 * t + 3) (iO (velA q r t 0))) am (cn q 1) := hA2.tI
  have hV3 : NV (tI S (am 3) (9 * t + 3) (iO (velA q r t 0))) am (zs (zs (zs q 3 t 1 (posA q r t 0)) 3 t 2 (posA q r t 1)) 3 t 3 (velA q r t 0)) := NV.lay (q := (zs (zs q 3 t 1 (posA q r t 0)) 3 t 2 (posA q r t 1))) (t := t) (k := 3) hA2 hV2 (by decide) rfl
  refine v_aload_n C 0 rfl rfl dX5_changes_153 ?_
  refine v_iload_n C 1 rfl rfl dX5_changes_154 ?_
  refine v_iconst C 4 (by decide) dX5_changes_155 ?_
  refine v_aload_n C 0 rfl rfl dX5_changes_156 ?_
  refine v_getR C (am 11) fl_RX5_59 hA.k0 hA.r62 dX5_changes_157 ?_
  refine v_iconst C 1 (by decide) dX5_changes_160 ?_
  refine v_iald C (iO (velA q r t 1)) hA.k11 (vpi hA.n11 (show vp_in (nI 1) 2 from vp_in_nI (by decide) (by decide))) (by rw [show (1 : Int32).toNatClampNeg = 1 from rfl]; rw [aI_tI2 n3_11]; exact hm1) dX5_changes_161 ?_
  refine v_callVv C (st := []) [.int (nI t), .int 4, .int (iO (velA q r t 1))] (c_X5_lays l (tI S (am 3) (9 * t + 3) (iO (velA q r t 0))) (iO (velA q r t 1)) am (cn q 1) t 4 (by have := (hA3).hn; omega) (by omega) hA3) ml_RX5_158 mi_yX5_lays hA.k0 (by decide) (by decide +kernel) rfl (Nat.le_of_ble_eq_true rfl) (Nat.le_of_ble_eq_true rfl) (Nat.le_of_ble_eq_true rfl) (Nat.le_of_ble_eq_true rfl) (Nat.le_of_ble_eq_true rfl) dX5_changes_162 (fun u h => ?_) _ rfl
  subst h
  have hA4 : NA (tI (tI S (am 3) (9 * t + 3) (iO (velA q r t 0))) (am 3) (9 * t + 4) (iO (velA q r t 1))) am (cn q 1) := hA3.tI
  have hV4 : NV (tI (tI S (am 3) (9 * t + 3) (iO (velA q r t 0))) (am 3) (9 * t + 4) (iO (velA q r t 1))) am (zs (zs (zs (zs q 3 t 1 (posA q r t 0)) 3 t 2 (posA q r t 1)) 3 t 3 (velA q r t 0)) 3 t 4 (velA q r t 1)) := NV.lay (q := (zs (zs (zs q 3 t 1 (posA q r t 0)) 3 t 2 (posA q r t 1)) 3 t 3 (velA q r t 0))) (t := t) (k := 4) hA3 hV3 (by decide) rfl
  refine v_aload_n C 0 rfl rfl dX5_changes_165 ?_
  refine v_iload_n C 1 rfl rfl dX5_changes_166 ?_
  refine v_iconst C 0 (by decide) dX5_changes_167 ?_
  refine v_aload_n C 0 rfl rfl dX5_changes_168 ?_
  refine v_getR C (am 6) fl_RX5_28 hA.k0 hA.r47 dX5_changes_169 ?_
  refine v_iload_n C 2 rfl rfl dX5_changes_172 ?_
  refine v_iald C (iO (zz q 2 r 0)) hA.k6 (vpi hA.n6 (vp_in_nI (by omega) (by decide))) ((congrArg _ (nI_clamp (by omega))).trans (hV4.t6 r (by omega))) dX5_changes_173 ?_
  refine v_callVv C (st := []) [.int (nI t), .int 0, .int (iO (zz q 2 r 0))] (c_X5_lays l (tI (tI S (am 3) (9 * t + 3) (iO (velA q r t 0))) (am 3) (9 * t + 4) (iO (velA q r t 1))) (iO (zz q 2 r 0)) am (cn q 1) t 0 (by have := (hA4).hn; omega) (by omega) hA4) ml_RX5_158 mi_yX5_lays hA.k0 (by decide) (by decide +kernel) rfl (Nat.le_of_ble_eq_true rfl) (Nat.le_of_ble_eq_true rfl) (Nat.le_of_ble_eq_true rfl) (Nat.le_of_ble_eq_true rfl) (Nat.le_of_ble_eq_true rfl) dX5_changes_174 (fun u h => ?_) _ rfl
  subst h
  have hA5 : NA (tI (tI (tI S (am 3) (9 * t + 3) (iO (velA q r t 0))) (am 3) (9 * t + 4) (iO (velA q r t 1))) (am 3) (9 * t + 0) (iO (zz q 2 r 0))) am (cn q 1) := hA4.tI
  have hV5 : NV (tI (tI (tI S (am 3) (9 * t + 3) (iO (velA q r t 0))) (am 3) (9 * t + 4) (iO (velA q r t 1))) (am 3) (9 * t + 0) (iO (zz q 2 r 0))) am (zs (zs (zs (zs (zs q 3 t 1 (posA q r t 0)) 3 t 2 (posA q r t 1)) 3 t 3 (velA q r t 0)) 3 t 4 (velA q r t 1)) 3 t 0 (zz q 2 r 0)) := NV.lay (q := (zs (zs (zs (zs q 3 t 1 (posA q r t 0)) 3 t 2 (posA q r t 1)) 3 t 3 (velA q r t 0)) 3 t 4 (velA q r t 1))) (t := t) (k := 0) hA4 hV4 (by decide) rfl
  refine v_aload_n C 0 rfl rfl dX5_changes_177 ?_
  refine v_iload_n C 1 rfl rfl dX5_changes_178 ?_
  refine v_iconst C 5 (by decide) dX5_changes_179 ?_
  refine v_aload_n C 0 rfl rfl dX5_changes_180 ?_
  refine v_iload_n C 1 rfl rfl dX5_changes_181 ?_
  refine v_iconst C 5 (by decide) dX5_changes_182 ?_
  refine v_callVi C (st := [.int 5, .int (nI t), .ref (am 0)]) [.int (nI t), .int 5] (c_X5_of l (tI (tI (tI S (am 3) (9 * t + 3) (iO (velA q r t 0))) (am 3) (9 * t + 4) (iO (velA q r t 1))) (am 3) (9 * t + 0) (iO (zz q 2 r 0))) am (cn q 1) t 5 (by have := (hA5).hn; omega) (by omega) hA5) ml_RX5_74 mi_yX5_of hA.k0 (by decide) (by decide +kernel) rfl (Nat.le_of_ble_eq_true rfl) (Nat.le_of_ble_eq_true rfl) (Nat.le_of_ble_eq_true rfl) (Nat.le_of_ble_eq_true rfl) (Nat.le_of_ble_eq_true rfl) dX5_changes_183 (fun r u h => ?_) _ rfl
  obtain ⟨rfl, rfl⟩ := h
  rw [(hV5).m t ht 5 (by omega)]
  rw [show zz (zs (zs (zs (zs (zs q 3 t 1 (posA q r t 0)) 3 t 2 (posA q r t 1)) 3 t 3 (velA q r t 0)) 3 t 4 (velA q r t 1)) 3 t 0 (zz q 2 r 0)) 3 t 5 = zz q 3 t 5 from by rw [zz_zs, if_neg (by omega), zz_zs, if_neg (by omega), zz_zs, if_neg (by omega), zz_zs, if_neg (by omega), zz_zs, if_neg (by omega)]]
  refine v_iconst C 1 (by decide) dX5_changes_186 ?_
  refine v_iadd C dX5_changes_187 ?_
  rw [show (1 : Int32) = iO 1 from rfl, iO_add]
  refine v_callVv C (st := []) [.int (nI t), .int 5, .int (iO (zz q 3 t 5 + 1))] (c_X5_lays l (tI (tI (tI S (am 3) (9 * t + 3) (iO (velA q r t 0))) (am 3) (9 * t + 4) (iO (velA q r t 1))) (am 3) (9 * t + 0) (iO (zz q 2 r 0))) (iO (zz q 3 t 5 + 1)) am (cn q 1) t 5 (by have := (hA5).hn; omega) (by omega) hA5) ml_RX5_158 mi_yX5_lays hA.k0 (by decide) (by decide +kernel) rfl (Nat.le_of_ble_eq_true rfl) (Nat.le_of_ble_eq_true rfl) (Nat.le_of_ble_eq_true rfl) (Nat.le_of_ble_eq_true rfl) (Nat.le_of_ble_eq_true rfl) dX5_changes_188 (fun u h => ?_) _ rfl
  subst h
  have hA6 : NA (tI (tI (tI (tI S (am 3) (9 * t + 3) (iO (velA q r t 0))) (am 3) (9 * t + 4) (iO (velA q r t 1))) (am 3) (9 * t + 0) (iO (zz q 2 r 0))) (am 3) (9 * t + 5) (iO (zz q 3 t 5 + 1))) am (cn q 1) := hA5.tI
  have hV6 : NV (tI (tI (tI (tI S (am 3) (9 * t + 3) (iO (velA q r t 0))) (am 3) (9 * t + 4) (iO (velA q r t 1))) (am 3) (9 * t + 0) (iO (zz q 2 r 0))) (am 3) (9 * t + 5) (iO (zz q 3 t 5 + 1))) am (zs (zs (zs (zs (zs (zs q 3 t 1 (posA q r t 0)) 3 t 2 (posA q r t 1)) 3 t 3 (velA q r t 0)) 3 t 4 (velA q r t 1)) 3 t 0 (zz q 2 r 0)) 3 t 5 (zz q 3 t 5 + 1)) := NV.lay (q := (zs (zs (zs (zs (zs q 3 t 1 (posA q r t 0)) 3 t 2 (posA q r t 1)) 3 t 3 (velA q r t 0)) 3 t 4 (velA q r t 1)) 3 t 0 (zz q 2 r 0))) (t := t) (k := 5) hA5 hV5 (by decide) rfl
  refine v_aload_n C 0 rfl rfl dX5_changes_191 ?_
  refine v_iload_n C 1 rfl rfl dX5_changes_192 ?_
  refine v_bipush C 6 (by decide) dX5_changes_193 ?_
  refine v_iconst C 0 (by decide) dX5_changes_195 ?_
  refine v_callVv C (st := []) [.int (nI t), .int 6, .int 0] (c_X5_lays l (tI (tI (tI (tI S (am 3) (9 * t + 3) (iO (velA q r t 0))) (am 3) (9 * t + 4) (iO (velA q r t 1))) (am 3) (9 * t + 0) (iO (zz q 2 r 0))) (am 3) (9 * t + 5) (iO (zz q 3 t 5 + 1))) 0 am (cn q 1) t 6 (by have := (hA6).hn; omega) (by omega) hA6) ml_RX5_158 mi_yX5_lays hA.k0 (by decide) (by decide +kernel) rfl (Nat.le_of_ble_eq_true rfl) (Nat.le_of_ble_eq_true rfl) (Nat.le_of_ble_eq_true rfl) (Nat.le_of_ble_eq_true rfl) (Nat.le_of_ble_eq_true rfl) dX5_changes_196 (fun u h => ?_) _ rfl
  subst h
  have hA7 : NA (tI (tI (tI (tI (tI S (am 3) (9 * t + 3) (iO (velA q r t 0))) (am 3) (9 * t + 4) (iO (velA q r t 1))) (am 3) (9 * t + 0) (iO (zz q 2 r 0))) (am 3) (9 * t + 5) (iO (zz q 3 t 5 + 1))) (am 3) (9 * t + 6) 0) am (cn q 1) := hA6.tI
  have hV7 : NV (tI (tI (tI (tI (tI S (am 3) (9 * t + 3) (iO (velA q r t 0))) (am 3) (9 * t + 4) (iO (velA q r t 1))) (am 3) (9 * t + 0) (iO (zz q 2 r 0))) (am 3) (9 * t + 5) (iO (zz q 3 t 5 + 1))) (am 3) (9 * t + 6) 0) am (zs (zs (zs (zs (zs (zs (zs q 3 t 1 (posA q r t 0)) 3 t 2 (posA q r t 1)) 3 t 3 (velA q r t 0)) 3 t 4 (velA q r t 1)) 3 t 0 (zz q 2 r 0)) 3 t 5 (zz q 3 t 5 + 1)) 3 t 6 0) := NV.lay (q := (zs (zs (zs (zs (zs (zs q 3 t 1 (posA q r t 0)) 3 t 2 (posA q r t 1)) 3 t 3 (velA q r t 0)) 3 t 4 (velA q r t 1)) 3 t 0 (zz q 2 r 0)) 3 t 5 (zz q 3 t 5 + 1))) (t := t) (k := 6) hA6 hV6 (by decide) rfl
  refine v_aload_n C 0 rfl rfl dX5_changes_199 ?_
  refine v_iload_n C 1 rfl rfl dX5_changes_200 ?_
  refine v_bipush C 104 (by decide) dX5_changes_201 ?_
  have hSG7 : SGB (zs (zs (zs (zs (zs (zs (zs q 3 t 1 (posA q r t 0)) 3 t 2 (posA q r t 1)) 3 t 3 (velA q r t 0)) 3 t 4 (velA q r t 1)) 3 t 0 (zz q 2 r 0)) 3 t 5 (zz q 3 t 5 + 1)) 3 t 6 0) := hSG.z3.z3.z3.z3.z3.z3.z3
  refine v_callVv C (st := []) [.int (nI t), .int 104] (c_X5_notes l (tI (tI (tI (tI (tI S (am 3) (9 * t + 3) (iO (velA q r t 0))) (am 3) (9 * t + 4) (iO (velA q r t 1))) (am 3) (9 * t + 0) (iO (zz q 2 r 0))) (am 3) (9 * t + 5) (iO (zz q 3 t 5 + 1))) (am 3) (9 * t + 6) 0) am (zs (zs (zs (zs (zs (zs (zs q 3 t 1 (posA q r t 0)) 3 t 2 (posA q r t 1)) 3 t 3 (velA q r t 0)) 3 t 4 (velA q r t 1)) 3 t 0 (zz q 2 r 0)) 3 t 5 (zz q 3 t 5 + 1)) 3 t 6 0) hA7 hV7 hSG7 t 104 104 rfl (by decide) ht hc5) ml_RX5_162 mi_yX5_notes hA.k0 (by decide) (by decide +kernel) rfl (Nat.le_of_ble_eq_true rfl) (Nat.le_of_ble_eq_true rfl) (Nat.le_of_ble_eq_true rfl) (Nat.le_of_ble_eq_true rfl) (Nat.le_of_ble_eq_true rfl) dX5_changes_203 (fun u h => ?_) _ rfl
  obtain ⟨am2, e2, gA, gV, gF⟩ := h
  rw [zs_flw q r t] at gV
  have hk9 : hK (tI (tI (tI (tI (tI S (am 3) (9 * t + 3) (iO (velA q r t 0))) (am 3) (9 * t + 4) (iO (velA q r t 1))) (am 3) (9 * t + 0) (iO (zz q 2 r 0))) (am 3) (9 * t + 5) (iO (zz q 3 t 5 + 1))) (am 3) (9 * t + 6) 0) (am 0) ≠ 0 := by rw [hA7.k0]; decide
  have hp0 : hI (tI (tI (tI (tI (tI S (am 3) (9 * t + 3) (iO (velA q r t 0))) (am 3) (9 * t + 4) (iO (velA q r t 1))) (am 3) (9 * t + 0) (iO (zz q 2 r 0))) (am 3) (9 * t + 5) (iO (zz q 3 t 5 + 1))) (am 3) (9 * t + 6) 0) 61 (am 0) = hI S 61 (am 0) := by rw [hI_tI, hI_tI, hI_tI, hI_tI, hI_tI]
  have hp1 : hI u 61 (am 0) = hI S 61 (am 0) := (gF.1 61 (am 0) hk9).trans hp0
  have hp2 : aI (tI (tI (tI (tI (tI S (am 3) (9 * t + 3) (iO (velA q r t 0))) (am 3) (9 * t + 4) (iO (velA q r t 1))) (am 3) (9 * t + 0) (iO (zz q 2 r 0))) (am 3) (9 * t + 5) (iO (zz q 3 t 5 + 1))) (am 3) (9 * t + 6) 0) (am 10) = aI S (am 10) := by rw [aI_tI2 n3_10, aI_tI2 n3_10, aI_tI2 n3_10, aI_tI2 n3_10, aI_tI2 n3_10]
  have hp3 : aI u (am 10) = aI S (am 10) := (gF.2.2 10 (by decide) (by decide)).trans hp2
  exact V.sub [0, 1, 2] rfl (kk u am2 (fun i hi => e2 i (by omega)) gA gV ⟨hp1, hp3⟩)
