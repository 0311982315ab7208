/-- a new track's row, before its first sign -/
def nw0 (q : AS) (r : Nat) : AS := ((fun k => if k = 1 then cn q 1 + 1 else if k = 100 + cn q 1 then 0 else cn q k), fun i j k => if i = 3 ∧ j = cn q 1 then bgnR q r k else zz q i j k)
theorem nw0_cnt (q : AS) (r : Nat) : cn (nw0 q r) (100 + cn q 1) = 0 := by
  show (if 100 + cn q 1 = 1 then _ else if 100 + cn q 1 = 100 + cn q 1 then 0 else _) = 0
  rw [if_neg (by omega), if_pos rfl]
theorem nw0_cn (q : AS) (r : Nat) {k : Nat} (h : k ≠ 1) (h2 : k ≠ 100 + cn q 1) : cn (nw0 q r) k = cn q k := by
  show (if k = 1 then _ else if k = 100 + cn q 1 then 0 else _) = _
  rw [if_neg h, if_neg h2]
theorem nw0_zz (q : AS) (r : Nat) {i j k : Nat} (h : ¬ (i = 3 ∧ j = cn q 1)) : zz (nw0 q r) i j k = zz q i j k := if_neg h
theorem nw0_row (q : AS) (r k : Nat) : zz (nw0 q r) 3 (cn q 1) k = bgnR q r k := if_pos ⟨rfl, rfl⟩
theorem nw0_nt (q : AS) (r : Nat) : ntA (nw0 q r) (cn q 1) 110 = newA q r := by
  refine Prod.ext ?_ ?_
  · funext k
    show (if k = 100 + cn q 1 then cn (nw0 q r) (100 + cn q 1) + 1 else cn (nw0 q r) k) = (if k = 1 then cn q 1 + 1 else if k = 100 + cn q 1 then 1 else cn q k)
    rw [nw0_cnt]
    by_cases h1 : k = 1
    · subst h1
      rw [if_neg (by omega), if_pos rfl]
      rfl
    · rw [if_neg h1]
      by_cases h2 : k = 100 + cn q 1
      · rw [if_pos h2, if_pos h2]
      · rw [if_neg h2, if_neg h2]
        exact nw0_cn q r h1 h2
  · funext i j k
    show (if i = 4 ∧ j = cn q 1 ∧ k = cn (nw0 q r) (100 + cn q 1) then (110 : Int) else zz (nw0 q r) i j k) = (if i = 3 ∧ j = cn q 1 then bgnR q r k else if i = 4 ∧ j = cn q 1 ∧ k = 0 then 110 else zz q i j k)
    rw [nw0_cnt]
    by_cases h1 : i = 3 ∧ j = cn q 1
    · rw [if_pos h1, if_neg (by omega)]
      exact if_pos h1
    · rw [if_neg h1]
      by_cases h2 : i = 4 ∧ j = cn q 1 ∧ k = 0
      · rw [if_pos h2, if_pos h2]
      · rw [if_neg h2, if_neg h2]
        exact if_neg h1
theorem NV.drop {S : HS} {am : AM} {q : AS} (hA : NA S am (cn q 1)) (hV : NV S am q) : NV (sI S 56 (am 0) (nI (cn q 3) + 1)) am (cs q 3 (cn q 3 + 1)) := by
  have r1 : ∀ f, f ≠ 56 → ∀ a, hI (sI S 56 (am 0) (nI (cn q 3) + 1)) f a = hI S f a := fun f hf a => hI_sI2 (fun z => hf z.1)
  have c : ∀ k, k ≠ 3 → cn (cs q 3 (cn q 3 + 1)) k = cn q k := fun k hk => by rw [cn_cs, if_neg hk]
  refine ⟨by rw [r1 _ (by decide), c 1 (by decide)]; exact hV.v44, by rw [r1 _ (by decide), c 0 (by decide)]; exact hV.v50, by rw [r1 _ (by decide)]; exact hV.v51, by rw [r1 _ (by decide)]; exact hV.v52, by rw [r1 _ (by decide)]; exact hV.v53, by rw [r1 _ (by decide)]; exact hV.v54, by rw [r1 _ (by decide)]; exact hV.v55, by rw [cn_cs, if_pos rfl]; exact hI_sI1.trans (nI_1 _), by rw [r1 _ (by decide), c 2 (by decide)]; exact hV.v57,
    fun i hi => by rw [c _ (by omega)]; exact hV.pm i hi, fun i hi h k hk => by rw [c _ (by omega)] at h; exact hV.p1 i hi h k hk, fun i hi h k hk => by rw [c _ (by omega)] at h; exact hV.p2 i hi h k hk, fun t ht k hk => ?_, fun t ht => ?_, fun t ht j hj => ?_, fun t ht => ?_, fun r hr => hV.t6 r hr, fun r hr => hV.t7 r hr, fun r hr => hV.t8 r hr⟩
  all_goals rw [c 1 (by decide)] at ht
  · exact hV.m t ht k hk
  · rw [c _ (by omega)]; exact hV.hm t ht
  · rw [c _ (by omega)] at hj; exact hV.hr t ht j hj
  · rw [c _ (by omega)]; exact hV.hl t ht
theorem NA.new {T : HS} {am : AM} {n b0 : Nat} (h : NA T am n) (hb : hK T b0 = 11) (hf : ∀ i, i < n → am (20 + i) ≠ b0) (hn : n + 1 ≤ 60) : NA (tR T (am 4) n (some b0)) (amU am n b0) (n + 1) :=
  ⟨by rw [amUl (by omega)]; exact h.k0,
    by rw [amUl (by omega)]; exact h.k1,
    by rw [amUl (by omega)]; exact h.k2,
    by rw [amUl (by omega)]; exact h.k3,
    by rw [amUl (by omega)]; exact h.k5,
    by rw [amUl (by omega)]; exact h.k6,
    by rw [amUl (by omega)]; exact h.k7,
    by rw [amUl (by omega)]; exact h.k8,
    by rw [amUl (by omega)]; exact h.k9,
    by rw [amUl (by omega)]; exact h.k10,
    by rw [amUl (by omega)]; exact h.k11,
    by rw [amUl (by omega)]; exact h.k4,
    upto (P := fun i => hK (tR T (am 4) n (some b0)) (amU am n b0 (20 + i)) = 11) (fun i hi => by rw [amUl (by omega)]; exact h.kh i hi) (by rw [amUt]; exact hb),
    by rw [amUl (by omega), amUl (by omega)]; exact h.r41,
    by rw [amUl (by omega), amUl (by omega)]; exact h.r42,
    by rw [amUl (by omega), amUl (by omega)]; exact h.r43,
    by rw [amUl (by omega), amUl (by omega)]; exact h.r45,
    by rw [amUl (by omega), amUl (by omega)]; exact h.r46,
    by rw [amUl (by omega), amUl (by omega)]; exact h.r47,
    by rw [amUl (by omega), amUl (by omega)]; exact h.r48,
    by rw [amUl (by omega), amUl (by omega)]; exact h.r49,
    by rw [amUl (by omega), amUl (by omega)]; exact h.r58,
    by rw [amUl (by omega), amUl (by omega)]; exact h.r59,
    by rw [amUl (by omega), amUl (by omega)]; exact h.r62,
    by rw [amUl (by omega)]; exact h.n1,
    by rw [amUl (by omega)]; exact h.n2,
    by rw [amUl (by omega)]; exact h.n3,
    by rw [amUl (by omega)]; exact h.n4,
    by rw [amUl (by omega)]; exact h.n5,
    by rw [amUl (by omega)]; exact h.n6,
    by rw [amUl (by omega)]; exact h.n7,
    by rw [amUl (by omega)]; exact h.n8,
    by rw [amUl (by omega)]; exact h.n9,
    by rw [amUl (by omega)]; exact h.n10,
    by rw [amUl (by omega)]; exact h.n11,
    upto (P := fun i => aR (tR T (am 4) n (some b0)) (amU am n b0 4) i = some (amU am n b0 (20 + i))) (fun i hi => by rw [amUl (by omega), amUl (by omega), aR_tR1, if_neg (by omega)]; exact h.a4 i hi) (by rw [amUl (by omega), amUt, aR_tR1, if_pos rfl]),
    fun i hi j hj e => by
      rw [amUl (by omega), amUl (by omega)] at e
      exact h.jj i hi j hj e,
    fun i hi j hj e => by
      by_cases ei : i = n <;> by_cases ej : j = n
      · omega
      · rw [ei, amUt, amUl (by omega)] at e; exact absurd e.symm (hf j (by omega))
      · rw [ej, amUt, amUl (by omega)] at e; exact absurd e (hf i (by omega))
      · rw [amUl (by omega), amUl (by omega)] at e; exact h.jh i (by omega) j (by omega) e,
    hn⟩
theorem NV.new {S T : HS} {am : AM} {q : AS} {r b0 : Nat} (hV : NV S am q) (hn : cn q 1 + 1 ≤ 60) (fI : ∀ f, f ≠ 44 → hI T f (am 0) = hI S f (am 0)) (h44 : hI T 44 (am 0) = nI (cn q 1 + 1)) (fN : ∀ t, t < cn q 1 → hN T (am (20 + t)) = hN S (am (20 + t))) (fA : ∀ i, i < 12 → i ≠ 3 → i ≠ 5 → aI T (am i) = aI S (am i)) (fH : ∀ t, t < cn q 1 → aI T (am (20 + t)) = aI S (am (20 + t)))
    (f5 : ∀ t, t < cn q 1 → aI T (am 5) t = aI S (am 5) t) (f5n : aI T (am 5) (cn q 1) = 0) (f3 : ∀ t, t < cn q 1 → ∀ k, k < 9 → aI T (am 3) (9 * t + k) = aI S (am 3) (9 * t + k)) (f3n : ∀ k, k < 9 → aI T (am 3) (9 * cn q 1 + k) = iO (bgnR q r k)) (hb : hN T b0 = 8) : NV T (amU am (cn q 1) b0) (nw0 q r) := by
  have u : ∀ i, i < 20 → amU am (cn q 1) b0 i = am i := fun i hi => amUl (by omega)
  have c : ∀ k, k < 100 → k ≠ 1 → cn (nw0 q r) k = cn q k := fun k h1 h2 => nw0_cn q r h2 (by omega)
  have z : ∀ i, i ≠ 3 → ∀ j k, zz (nw0 q r) i j k = zz q i j k := fun i hi j k => nw0_zz q r (fun y => hi y.1)
  have e1 : cn (nw0 q r) 1 = cn q 1 + 1 := rfl
  refine ⟨by rw [u 0 (by decide), e1]; exact h44, by rw [u 0 (by decide), fI _ (by decide), c 0 (by decide) (by decide)]; exact hV.v50, by rw [u 0 (by decide), fI _ (by decide), z 0 (by decide)]; exact hV.v51, by rw [u 0 (by decide), fI _ (by decide), z 0 (by decide)]; exact hV.v52, by rw [u 0 (by decide), fI _ (by decide), z 0 (by decide)]; exact hV.v53, by rw [u 0 (by decide), fI _ (by decide), z 0 (by decide)]; exact hV.v54, by rw [u 0 (by decide), fI _ (by decide), z 0 (by decide)]; exact hV.v55, by rw [u 0 (by decide), fI _ (by decide), c 3 (by decide) (by decide)]; exact hV.v56, by rw [u 0 (by decide), fI _ (by decide), c 2 (by decide) (by decide)]; exact hV.v57,
    fun i hi => by rw [u 2 (by decide), fA 2 (by decide) (by decide) (by decide), c _ (by omega) (by omega)]; exact hV.pm i hi, fun i hi h k hk => ?_, fun i hi h k hk => ?_, ?_, ?_, ?_, ?_, fun t ht => by rw [u 6 (by decide), fA 6 (by decide) (by decide) (by decide), z 2 (by decide)]; exact hV.t6 t ht, fun t ht => by rw [u 7 (by decide), fA 7 (by decide) (by decide) (by decide), z 2 (by decide)]; exact hV.t7 t ht, fun t ht => by rw [u 8 (by decide), fA 8 (by decide) (by decide) (by decide), z 2 (by decide)]; exact hV.t8 t ht⟩
  · rw [c _ (by omega) (by omega)] at h
    rw [u 1 (by decide), fA 1 (by decide) (by decide) (by decide), z 1 (by decide)]; exact hV.p1 i hi h k hk
  · rw [c _ (by omega) (by omega)] at h
    rw [u 1 (by decide), fA 1 (by decide) (by decide) (by decide), z 1 (by decide)]; exact hV.p2 i hi h k hk
  all_goals rw [e1]
  · refine upto (fun t ht k hk => ?_) (fun k hk => ?_)
    · rw [u 3 (by decide), nw0_zz q r (by omega), f3 t ht k hk]; exact hV.m t ht k hk
    · rw [u 3 (by decide), nw0_row]; exact f3n k hk
  · refine upto (fun t ht => ?_) ?_
    · rw [u 5 (by decide), nw0_cn q r (by omega) (by omega), f5 t ht]; exact hV.hm t ht
    · rw [u 5 (by decide), nw0_cnt, f5n]; rfl
  · refine upto (fun t ht j hj => ?_) (fun j hj => ?_)
    · rw [nw0_cn q r (by omega) (by omega)] at hj
      rw [amUl (by omega), fH t ht, z 4 (by decide)]; exact hV.hr t ht j hj
    · rw [nw0_cnt] at hj; exact absurd hj (Nat.not_lt_zero j)
  · refine upto (fun t ht => ?_) ?_
    · rw [nw0_cn q r (by omega) (by omega), amUl (by omega), fN t ht]; exact hV.hl t ht
    · rw [nw0_cnt, amUt, hb]; omega
theorem nI_p1 (n : Nat) : nI n + 1 - 1 = nI n := by rw [nI_1, nI_m1]
theorem rows13 (S : HS) (a c : Nat) (v0 v1 v2 : Int32) : (∀ z, (∀ k, k < 9 → z ≠ 9 * c + k) → aI (tI (tI (tI (tI (tI (tI (tI (tI (tI (tI (tI (tI (tI S a (9 * c + 0) 0) a (9 * c + 1) 0) a (9 * c + 2) 0) a (9 * c + 3) 0) a (9 * c + 4) 0) a (9 * c + 5) 0) a (9 * c + 6) 0) a (9 * c + 7) 0) a (9 * c + 8) 0) a (9 * c + 0) v0) a (9 * c + 1) v1) a (9 * c + 2) v2) a (9 * c + 5) 1) a z = aI S a z) ∧ (∀ k, k < 9 → aI (tI (tI (tI (tI (tI (tI (tI (tI (tI (tI (tI (tI (tI S a (9 * c + 0) 0) a (9 * c + 1) 0) a (9 * c + 2) 0) a (9 * c + 3) 0) a (9 * c + 4) 0) a (9 * c + 5) 0) a (9 * c + 6) 0) a (9 * c + 7) 0) a (9 * c + 8) 0) a (9 * c + 0) v0) a (9 * c + 1) v1) a (9 * c + 2) v2) a (9 * c + 5) 1) a (9 * c + k) = if k = 0 then v0 else if k = 1 then v1 else if k = 2 then v2 else if k = 5 then 1 else 0) ∧ (∀ b, b ≠ a → aI (tI (tI (tI (tI (tI (tI (tI (tI (tI (tI (tI (tI (tI S a (9 * c + 0) 0) a (9 * c + 1) 0) a (9 * c + 2) 0) a (9 * c + 3) 0) a (9 * c + 4) 0) a (9 * c + 5) 0) a (9 * c + 6) 0) a (9 * c + 7) 0) a (9 * c + 8) 0) a (9 * c + 0) v0) a (9 * c + 1) v1) a (9 * c + 2) v2) a (9 * c + 5) 1) b = aI S b) := by
  refine ⟨fun z hz => ?_, fun k hk => ?_, fun b hb => ?_⟩
  · rw [aI_tI1, if_neg (hz 5 (by decide)), aI_tI1, if_neg (hz 2 (by decide)), aI_tI1, if_neg (hz 1 (by decide)), aI_tI1, if_neg (hz 0 (by decide)), aI_tI1, if_neg (hz 8 (by decide)), aI_tI1, if_neg (hz 7 (by decide)), aI_tI1, if_neg (hz 6 (by decide)), aI_tI1, if_neg (hz 5 (by decide)), aI_tI1, if_neg (hz 4 (by decide)), aI_tI1, if_neg (hz 3 (by decide)), aI_tI1, if_neg (hz 2 (by decide)), aI_tI1, if_neg (hz 1 (by decide)), aI_tI1, if_neg (hz 0 (by decide))]
  · rcases (show k = 0 ∨ k = 1 ∨ k = 2 ∨ k = 3 ∨ k = 4 ∨ k = 5 ∨ k = 6 ∨ k = 7 ∨ k = 8 by omega) with rfl | rfl | rfl | rfl | rfl | rfl | rfl | rfl | rfl
    · rw [aI_tI1, if_neg (by omega), aI_tI1, if_neg (by omega), aI_tI1, if_neg (by omega), aI_tI1, if_pos rfl]; rfl
    · rw [aI_tI1, if_neg (by omega), aI_tI1, if_neg (by omega), aI_tI1, if_pos rfl]; rfl
    · rw [aI_tI1, if_neg (by omega), aI_tI1, if_pos rfl]; rfl
    · rw [aI_tI1, if_neg (by omega), aI_tI1, if_neg (by omega), aI_tI1, if_neg (by omega), aI_tI1, if_neg (by omega), aI_tI1, if_neg (by omega), aI_tI1, if_neg (by omega), aI_tI1, if_neg (by omega), aI_tI1, if_neg (by omega), aI_tI1, if_neg (by omega), aI_tI1, if_pos rfl]; rfl
    · rw [aI_tI1, if_neg (by omega), aI_tI1, if_neg (by omega), aI_tI1, if_neg (by omega), aI_tI1, if_neg (by omega), aI_tI1, if_neg (by omega), aI_tI1, if_neg (by omega), aI_tI1, if_neg (by omega), aI_tI1, if_neg (by omega), aI_tI1, if_pos rfl]; rfl
    · rw [aI_tI1, if_pos rfl]; rfl
    · rw [aI_tI1, if_neg (by omega), aI_tI1, if_neg (by omega), aI_tI1, if_neg (by omega), aI_tI1, if_neg (by omega), aI_tI1, if_neg (by omega), aI_tI1, if_neg (by omega), aI_tI1, if_pos rfl]; rfl
    · rw [aI_tI1, if_neg (by omega), aI_tI1, if_neg (by omega), aI_tI1, if_neg (by omega), aI_tI1, if_neg (by omega), aI_tI1, if_neg (by omega), aI_tI1, if_pos rfl]; rfl
    · rw [aI_tI1, if_neg (by omega), aI_tI1, if_neg (by omega), aI_tI1, if_neg (by omega), aI_tI1, if_neg (by omega), aI_tI1, if_pos rfl]; rfl
  · rw [aI_tI2 hb, aI_tI2 hb, aI_tI2 hb, aI_tI2 hb, aI_tI2 hb, aI_tI2 hb, aI_tI2 hb, aI_tI2 hb, aI_tI2 hb, aI_tI2 hb, aI_tI2 hb, aI_tI2 hb, aI_tI2 hb]
theorem bgn_O (q : AS) (r k : Nat) (hk : k < 9) : (if k = 0 then iO (zz q 2 r 0) else if k = 1 then iO (16 * zz q 2 r 1) else if k = 2 then iO (16 * zz q 2 r 2) else if k = 5 then (1 : Int32) else 0) = iO (bgnR q r k) := by
  rcases (show k = 0 ∨ k = 1 ∨ k = 2 ∨ k = 3 ∨ k = 4 ∨ k = 5 ∨ k = 6 ∨ k = 7 ∨ k = 8 by omega) with rfl | rfl | rfl | rfl | rfl | rfl | rfl | rfl | rfl <;> rfl
theorem nw0_SG {q : AS} {r : Nat} (h : SGB q) : SGB (nw0 q r) := fun t ht k hk => by
  have ht2 : t < cn q 1 + 1 := ht
  by_cases e : t = cn q 1
  · subst e
    rw [nw0_cnt] at hk
    exact absurd hk (Nat.not_lt_zero k)
  · rw [nw0_cn q r (by omega) (by omega)] at hk
    rw [nw0_zz q r (by omega)]
    exact h t (by omega) k hk
set_option maxRecDepth 100000 in
set_option maxHeartbeats 4000000 in
theorem c_X5_begins (l : Launch) (S : HS) (am : AM) (q : AS) (hB : BI q) (hA : NA S am (cn q 1)) (hV : NV S am q) (hSG : SGB q) (r : Nat) (hr : r < cn q 0)  : cM l yX5_begins cX5_begins 3 (Option.none : Option Jvm.ClassFile.FieldType) 8 [.ref (am 0), .int (nI r)] S (pV fun u => ∃ am2 : AM, (∀ i, i < 20 → am2 i = am i) ∧ NA u am2 (cn (bgnA q r) 1) ∧ NV u am2 (bgnA q r) ∧ FrP S u am) 2 668 := by
  refine cM_intro (by decide +kernel) cd_X5_begins (Nat.le_of_ble_eq_true rfl) ?_
  intro pP eE sS mM aA bB tT cC G A C hRT hin
  refine V.lvs (lv2 := [(0, .ref (am 0)), (1, .int (nI r))]) rfl ?_
  have h04 := hB.b0
  refine v_aload_n C 0 rfl rfl dX5_begins_0 ?_
  refine v_callVi C (st := []) [] (c_X5_live l S am q hB hA hV) ml_RX5_166 mi_yX5_live hA.k0 (by decide) (by decide +kernel) rfl (Nat.le_of_ble_eq_true rfl) (Nat.le_of_ble_eq_true rfl) (Nat.le_of_ble_eq_true rfl) (Nat.le_of_ble_eq_true rfl) (Nat.le_of_ble_eq_true rfl) dX5_begins_1 (fun r u h => ?_) _ rfl
  obtain ⟨rfl, rfl⟩ := h
  refine v_bipush C 6 (by decide) dX5_begins_4 ?_
  refine v_icmp_eq C 18 (by decide) dX5_begins_6 (fun c6 => ?_) (fun c6 => ?_)
  · refine v_aload_n C 0 rfl rfl dX5_begins_18 ?_
    refine v_dup C rfl dX5_begins_19 ?_
    refine v_getI C (nI (cn q 3)) fl_RX5_170 hA.k0 hV.v56 dX5_begins_20 ?_
    refine v_iconst C 1 (by decide) dX5_begins_23 ?_
    refine v_iadd C dX5_begins_24 ?_
    refine v_putI C fl_RX5_170 hA.k0 rfl rfl dX5_begins_25 ?_
    exact v_vret C hRT (Nat.le_of_ble_eq_true rfl) (Nat.le_of_ble_eq_true rfl) dX5_begins_28 (by have e9 : bgnA q r = cs q 3 (cn q 3 + 1) := bgn_drop (Or.inl (by have := nI_inj (b := 6) c6 (by have := hB.bv; unfold lcn; omega) (by decide); omega)); rw [e9]; exact ⟨rfl, am, fun _ _ => rfl, hA.of rfl rfl rfl rfl, NV.drop hA hV, ⟨hI_sI2 (fun z => absurd z.1 (by decide)), rfl⟩⟩)
  · refine v_aload_n C 0 rfl rfl dX5_begins_9 ?_
    refine v_getI C (nI (cn q 1)) fl_RX5_71 hA.k0 hV.v44 dX5_begins_10 ?_
    refine v_bipush C 60 (by decide) dX5_begins_13 ?_
    refine v_icmp_ne C 29 (by decide) dX5_begins_15 (fun c15 => ?_) (fun c15 => ?_)
    · have hl6 : ¬ lcn q = 6 := fun z => c6 (by rw [z]; rfl)
      have hl7 : lcn q ≤ 6 := hB.bv
      have h60 : cn q 1 < 60 := by have : ¬ cn q 1 = 60 := fun z => c15 (by rw [z]; rfl); have := hA.hn; omega
      have hneg : ¬ (6 ≤ lcn q ∨ 60 ≤ cn q 1) := by omega
      have n5_3 : am 5 ≠ am 3 := hA.apt (by decide) (by decide) (by decide)
      have n6_3 : am 6 ≠ am 3 := hA.apt (by decide) (by decide) (by decide)
      have n7_3 : am 7 ≠ am 3 := hA.apt (by decide) (by decide) (by decide)
      have n8_3 : am 8 ≠ am 3 := hA.apt (by decide) (by decide) (by decide)
      have n10_3 : am 10 ≠ am 3 := hA.apt (by decide) (by decide) (by decide)
      refine v_iconst C 0 (by decide) dX5_begins_29 ?_
      refine v_istore_n C [(2, .int 0), (0, .ref (am 0)), (1, .int (nI r))] (by decide) rfl rfl dX5_begins_30 ?_
      refine v_iload_n C 0 rfl rfl dX5_begins_31 ?_
      refine v_bipush C 9 (by decide) dX5_begins_32 ?_
      refine v_icmp_ge C 53 (by decide) dX5_begins_34 (fun q => absurd q (by decide)) (fun _ => ?_)
      refine v_aload_n C 1 rfl rfl dX5_begins_37 ?_
      refine v_aload_n C 1 rfl rfl dX5_begins_38 ?_
      refine v_getI C (nI (cn q 1)) fl_RX5_71 hA.k0 hV.v44 dX5_begins_39 ?_
      refine v_iload_n C 0 rfl rfl dX5_begins_42 ?_
      refine v_iconst C 0 (by decide) dX5_begins_43 ?_
      refine v_callVv C (st := []) [.int (nI (cn q 1)), .int 0, .int 0] (c_X5_lays l S 0 am (cn q 1) (cn q 1) 0 (by have := (hA).hn; omega) (by omega) hA) ml_RX5_158 mi_yX5_lays hA.k0 (by decide) (by decide +kernel) rfl (Nat.le_of_ble_eq_true rfl) (Nat.le_of_ble_eq_true rfl) (Nat.le_of_ble_eq_true rfl) (Nat.le_of_ble_eq_true rfl) (Nat.le_of_ble_eq_true rfl) dX5_begins_44 (fun u h => ?_) _ rfl
      subst h
      refine v_iinc C 1 0 [(2, .int 1), (0, .ref (am 0)), (1, .int (nI r))] rfl (by decide) (by decide) rfl dX5_begins_47 ?_
      refine v_goto C 31 (by decide) dX5_begins_50 ?_
      refine v_iload_n C 0 rfl rfl dX5_begins_31 ?_
      refine v_bipush C 9 (by decide) dX5_begins_32 ?_
      refine v_icmp_ge C 53 (by decide) dX5_begins_34 (fun q => absurd q (by decide)) (fun _ => ?_)
      refine v_aload_n C 1 rfl rfl dX5_begins_37 ?_
      refine v_aload_n C 1 rfl rfl dX5_begins_38 ?_
      refine v_getI C (nI (cn q 1)) fl_RX5_71 hA.k0 hV.v44 dX5_begins_39 ?_
      refine v_iload_n C 0 rfl rfl dX5_begins_42 ?_
      refine v_iconst C 0 (by decide) dX5_begins_43 ?_
      refine v_callVv C (st := []) [.int (nI (cn q 1)), .int 1, .int 0] (c_X5_lays l (tI S (am 3) (9 * (cn q 1) + 0) 0) 0 am (cn q 1) (cn q 1) 1 (by have := (hA).hn; omega) (by omega) hA) ml_RX5_158 mi_yX5_lays hA.k0 (by decide) (by decide +kernel) rfl (Nat.le_of_ble_eq_true rfl) (Nat.le_of_ble_eq_true rfl) (Nat.le_of_ble_eq_true rfl) (Nat.le_of_ble_eq_true rfl) (Nat.le_of_ble_eq_true rfl) dX5_begins_44 (fun u h => ?_) _ rfl
      subst h
      refine v_iinc C 2 0 [(2, .int 2), (0, .ref (am 0)), (1, .int (nI r))] rfl (by decide) (by decide) rfl dX5_begins_47 ?_
      refine v_goto C 31 (by decide) dX5_begins_50 ?_
      refine v_iload_n C 0 rfl rfl dX5_begins_31 ?_
      refine v_bipush C 9 (by decide) dX5_begins_32 ?_
      refine v_icmp_ge C 53 (by decide) dX5_begins_34 (fun q => absurd q (by decide)) (fun _ => ?_)
      refine v_aload_n C 1 rfl rfl dX5_begins_37 ?_
      refine v_aload_n C 1 rfl rfl dX5_begins_38 ?_
      refine v_getI C (nI (cn q 1)) fl_RX5_71 hA.k0 hV.v44 dX5_begins_39 ?_
      refine v_iload_n C 0 rfl rfl dX5_begins_42 ?_
      refine v_iconst C 0 (by decide) dX5_begins_43 ?_
      refine v_callVv C (st := []) [.int (nI (cn q 1)), .int 2, .int 0] (c_X5_lays l (tI (tI S (am 3) (9 * (cn q 1) + 0) 0) (am 3) (9 * (cn q 1) + 1) 0) 0 am (cn q 1) (cn q 1) 2 (by have := (hA).hn; omega) (by omega) hA) ml_RX5_158 mi_yX5_lays hA.k0 (by decide) (by decide +kernel) rfl (Nat.le_of_ble_eq_true rfl) (Nat.le_of_ble_eq_true rfl) (Nat.le_of_ble_eq_true rfl) (Nat.le_of_ble_eq_true rfl) (Nat.le_of_ble_eq_true rfl) dX5_begins_44 (fun u h => ?_) _ rfl
      subst h
      refine v_iinc C 3 0 [(2, .int 3), (0, .ref (am 0)), (1, .int (nI r))] rfl (by decide) (by decide) rfl dX5_begins_47 ?_
      refine v_goto C 31 (by decide) dX5_begins_50 ?_
      refine v_iload_n C 0 rfl rfl dX5_begins_31 ?_
      refine v_bipush C 9 (by decide) dX5_begins_32 ?_
      refine v_icmp_ge C 53 (by decide) dX5_begins_34 (fun q => absurd q (by decide)) (fun _ => ?_)
      refine v_aload_n C 1 rfl rfl dX5_begins_37 ?_
      refine v_aload_n C 1 rfl rfl dX5_begins_38 ?_
      refine v_getI C (nI (cn q 1)) fl_RX5_71 hA.k0 hV.v44 dX5_begins_39 ?_
      refine v_iload_n C 0 rfl rfl dX5_begins_42 ?_
      refine v_iconst C 0 (by decide) dX5_begins_43 ?_
      refine v_callVv C (st := []) [.int (nI (cn q 1)), .int 3, .int 0] (c_X5_lays l (tI (tI (tI S (am 3) (9 * (cn q 1) + 0) 0) (am 3) (9 * (cn q 1) + 1) 0) (am 3) (9 * (cn q 1) + 2) 0) 0 am (cn q 1) (cn q 1) 3 (by have := (hA).hn; omega) (by omega) hA) ml_RX5_158 mi_yX5_lays hA.k0 (by decide) (by decide +kernel) rfl (Nat.le_of_ble_eq_true rfl) (Nat.le_of_ble_eq_true rfl) (Nat.le_of_ble_eq_true rfl) (Nat.le_of_ble_eq_true rfl) (Nat.le_of_ble_eq_true rfl) dX5_begins_44 (fun u h => ?_) _ rfl
      subst h
      refine v_iinc C 4 0 [(2, .int 4), (0, .ref (am 0)), (1, .int (nI r))] rfl (by decide) (by decide) rfl dX5_begins_47 ?_
      refine v_goto C 31 (by decide) dX5_begins_50 ?_
      refine v_iload_n C 0 rfl rfl dX5_begins_31 ?_
      refine v_bipush C 9 (by decide) dX5_begins_32 ?_
      refine v_icmp_ge C 53 (by decide) dX5_begins_34 (fun q => absurd q (by decide)) (fun _ => ?_)
      refine v_aload_n C 1 rfl rfl dX5_begins_37 ?_
      refine v_aload_n C 1 rfl rfl dX5_begins_38 ?_
      refine v_getI C (nI (cn q 1)) fl_RX5_71 hA.k0 hV.v44 dX5_begins_39 ?_
      refine v_iload_n C 0 rfl rfl dX5_begins_42 ?_
      refine v_iconst C 0 (by decide) dX5_begins_43 ?_
      refine v_callVv C (st := []) [.int (nI (cn q 1)), .int 4, .int 0] (c_X5_lays l (tI (tI (tI (tI S (am 3) (9 * (cn q 1) + 0) 0) (am 3) (9 * (cn q 1) + 1) 0) (am 3) (9 * (cn q 1) + 2) 0) (am 3) (9 * (cn q 1) + 3) 0) 0 am (cn q 1) (cn q 1) 4 (by have := (hA).hn; omega) (by omega) hA) ml_RX5_158 mi_yX5_lays hA.k0 (by decide) (by decide +kernel) rfl (Nat.le_of_ble_eq_true rfl) (Nat.le_of_ble_eq_true rfl) (Nat.le_of_ble_eq_true rfl) (Nat.le_of_ble_eq_true rfl) (Nat.le_of_ble_eq_true rfl) dX5_begins_44 (fun u h => ?_) _ rfl
      subst h
      refine v_iinc C 5 0 [(2, .int 5), (0, .ref (am 0)), (1, .int (nI r))] rfl (by decide) (by decide) rfl dX5_begins_47 ?_
      refine v_goto C 31 (by decide) dX5_begins_50 ?_
      refine v_iload_n C 0 rfl rfl dX5_begins_31 ?_
      refine v_bipush C 9 (by decide) dX5_begins_32 ?_
      refine v_icmp_ge C 53 (by decide) dX5_begins_34 (fun q => absurd q (by decide)) (fun _ => ?_)
      refine v_aload_n C 1 rfl rfl dX5_begins_37 ?_
      refine v_aload_n C 1 rfl rfl dX5_begins_38 ?_
      refine v_getI C (nI (cn q 1)) fl_RX5_71 hA.k0 hV.v44 dX5_begins_39 ?_
      refine v_iload_n C 0 rfl rfl dX5_begins_42 ?_
      refine v_iconst C 0 (by decide) dX5_begins_43 ?_
      refine v_callVv C (st := []) [.int (nI (cn q 1)), .int 5, .int 0] (c_X5_lays l (tI (tI (tI (tI (tI S (am 3) (9 * (cn q 1) + 0) 0) (am 3) (9 * (cn q 1) + 1) 0) (am 3) (9 * (cn q 1) + 2) 0) (am 3) (9 * (cn q 1) + 3) 0) (am 3) (9 * (cn q 1) + 4) 0) 0 am (cn q 1) (cn q 1) 5 (by have := (hA).hn; omega) (by omega) hA) ml_RX5_158 mi_yX5_lays hA.k0 (by decide) (by decide +kernel) rfl (Nat.le_of_ble_eq_true rfl) (Nat.le_of_ble_eq_true rfl) (Nat.le_of_ble_eq_true rfl) (Nat.le_of_ble_eq_true rfl) (Nat.le_of_ble_eq_true rfl) dX5_begins_44 (fun u h => ?_) _ rfl
      subst h
      refine v_iinc C 6 0 [(2, .int 6), (0, .ref (am 0)), (1, .int (nI r))] rfl (by decide) (by decide) rfl dX5_begins_47 ?_
      refine v_goto C 31 (by decide) dX5_begins_50 ?_
      refine v_iload_n C 0 rfl rfl dX5_begins_31 ?_
      refine v_bipush C 9 (by decide) dX5_begins_32 ?_
      refine v_icmp_ge C 53 (by decide) dX5_begins_34 (fun q => absurd q (by decide)) (fun _ => ?_)
      refine v_aload_n C 1 rfl rfl dX5_begins_37 ?_
      refine v_aload_n C 1 rfl rfl dX5_begins_38 ?_
      refine v_getI C (nI (cn q 1)) fl_RX5_71 hA.k0 hV.v44 dX5_begins_39 ?_
      refine v_iload_n C 0 rfl rfl dX5_begins_42 ?_
      refine v_iconst C 0 (by decide) dX5_begins_43 ?_
      refine v_callVv C (st := []) [.int (nI (cn q 1)), .int 6, .int 0] (c_X5_lays l (tI (tI (tI (tI (tI (tI S (am 3) (9 * (cn q 1) + 0) 0) (am 3) (9 * (cn q 1) + 1) 0) (am 3) (9 * (cn q 1) + 2) 0) (am 3) (9 * (cn q 1) + 3) 0) (am 3) (9 * (cn q 1) + 4) 0) (am 3) (9 * (cn q 1) + 5) 0) 0 am (cn q 1) (cn q 1) 6 (by have := (hA).hn; omega) (by omega) hA) ml_RX5_158 mi_yX5_lays hA.k0 (by decide) (by decide +kernel) rfl (Nat.le_of_ble_eq_true rfl) (Nat.le_of_ble_eq_true rfl) (Nat.le_of_ble_eq_true rfl) (Nat.le_of_ble_eq_true rfl) (Nat.le_of_ble_eq_true rfl) dX5_begins_44 (fun u h => ?_) _ rfl
      subst h
      refine v_iinc C 7 0 [(2, .int 7), (0, .ref (am 0)), (1, .int (nI r))] rfl (by decide) (by decide) rfl dX5_begins_47 ?_
      refine v_goto C 31 (by decide) dX5_begins_50 ?_
      refine v_iload_n C 0 rfl rfl dX5_begins_31 ?_
      refine v_bipush C 9 (by decide) dX5_begins_32 ?_
      refine v_icmp_ge C 53 (by decide) dX5_begins_34 (fun q => absurd q (by decide)) (fun _ => ?_)
      refine v_aload_n C 1 rfl rfl dX5_begins_37 ?_
      refine v_aload_n C 1 rfl rfl dX5_begins_38 ?_
      refine v_getI C (nI (cn q 1)) fl_RX5_71 hA.k0 hV.v44 dX5_begins_39 ?_
      refine v_iload_n C 0 rfl rfl dX5_begins_42 ?_
      refine v_iconst C 0 (by decide) dX5_begins_43 ?_
      refine v_callVv C (st := []) [.int (nI (cn q 1)), .int 7, .int 0] (c_X5_lays l (tI (tI (tI (tI (tI (tI (tI S (am 3) (9 * (cn q 1) + 0) 0) (am 3) (9 * (cn q 1) + 1) 0) (am 3) (9 * (cn q 1) + 2) 0) (am 3) (9 * (cn q 1) + 3) 0) (am 3) (9 * (cn q 1) + 4) 0) (am 3) (9 * (cn q 1) + 5) 0) (am 3) (9 * (cn q 1) + 6) 0) 0 am (cn q 1) (cn q 1) 7 (by have := (hA).hn; omega) (by omega) hA) ml_RX5_158 mi_yX5_lays hA.k0 (by decide) (by decide +kernel) rfl (Nat.le_of_ble_eq_true rfl) (Nat.le_of_ble_eq_true rfl) (Nat.le_of_ble_eq_true rfl) (Nat.le_of_ble_eq_true rfl) (Nat.le_of_ble_eq_true rfl) dX5_begins_44 (fun u h => ?_) _ rfl
      subst h
      refine v_iinc C 8 0 [(2, .int 8), (0, .ref (am 0)), (1, .int (nI r))] rfl (by decide) (by decide) rfl dX5_begins_47 ?_
      refine v_goto C 31 (by decide) dX5_begins_50 ?_
      refine v_iload_n C 0 rfl rfl dX5_begins_31 ?_
      refine v_bipush C 9 (by decide) dX5_begins_32 ?_
      refine v_icmp_ge C 53 (by decide) dX5_begins_34 (fun q => absurd q (by decide)) (fun _ => ?_)
      refine v_aload_n C 1 rfl rfl dX5_begins_37 ?_
      refine v_aload_n C 1 rfl rfl dX5_begins_38 ?_
      refine v_getI C (nI (cn q 1)) fl_RX5_71 hA.k0 hV.v44 dX5_begins_39 ?_
      refine v_iload_n C 0 rfl rfl dX5_begins_42 ?_
      refine v_iconst C 0 (by decide) dX5_begins_43 ?_
      refine v_callVv C (st := []) [.int (nI (cn q 1)), .int 8, .int 0] (c_X5_lays l (tI (tI (tI (tI (tI (tI (tI (tI S (am 3) (9 * (cn q 1) + 0) 0) (am 3) (9 * (cn q 1) + 1) 0) (am 3) (9 * (cn q 1) + 2) 0) (am 3) (9 * (cn q 1) + 3) 0) (am 3) (9 * (cn q 1) + 4) 0) (am 3) (9 * (cn q 1) + 5) 0) (am 3) (9 * (cn q 1) + 6) 0) (am 3) (9 * (cn q 1) + 7) 0) 0 am (cn q 1) (cn q 1) 8 (by have := (hA).hn; omega) (by omega) hA) ml_RX5_158 mi_yX5_lays hA.k0 (by decide) (by decide +kernel) rfl (Nat.le_of_ble_eq_true rfl) (Nat.le_of_ble_eq_true rfl) (Nat.le_of_ble_eq_true rfl) (Nat.le_of_ble_eq_true rfl) (Nat.le_of_ble_eq_true rfl) dX5_begins_44 (fun u h => ?_) _ rfl
      subst h
      refine v_iinc C 9 0 [(2, .int 9), (0, .ref (am 0)), (1, .int (nI r))] rfl (by decide) (by decide) rfl dX5_begins_47 ?_
      refine v_goto C 31 (by decide) dX5_begins_50 ?_
      refine v_iload_n C 0 rfl rfl dX5_begins_31 ?_
      refine v_bipush C 9 (by decide) dX5_begins_32 ?_
      refine v_icmp_ge C 53 (by decide) dX5_begins_34 (fun _ => ?_) (fun q => absurd (by decide) q)
      refine v_aload_n C 1 rfl rfl dX5_begins_53 ?_
      refine v_aload_n C 1 rfl rfl dX5_begins_54 ?_
      refine v_getI C (nI (cn q 1)) fl_RX5_71 hA.k0 hV.v44 dX5_begins_55 ?_
      refine v_iconst C 0 (by decide) dX5_begins_58 ?_
      refine v_aload_n C 1 rfl rfl dX5_begins_59 ?_
      refine v_getR C (am 6) fl_RX5_28 hA.k0 hA.r47 dX5_begins_60 ?_
      refine v_iload_n C 2 rfl rfl dX5_begins_63 ?_
      refine v_iald C (iO (zz q 2 r 0)) hA.k6 (by rw [hA.n6]; exact vp_in_nI (by omega) (by decide)) (by rw [nI_clamp (by omega), aI_tI2 n6_3, aI_tI2 n6_3, aI_tI2 n6_3, aI_tI2 n6_3, aI_tI2 n6_3, aI_tI2 n6_3, aI_tI2 n6_3, aI_tI2 n6_3, aI_tI2 n6_3]; exact hV.t6 r (by omega)) dX5_begins_64 ?_
      refine v_callVv C (st := []) [.int (nI (cn q 1)), .int 0, .int (iO (zz q 2 r 0))] (c_X5_lays l (tI (tI (tI (tI (tI (tI (tI (tI (tI S (am 3) (9 * (cn q 1) + 0) 0) (am 3) (9 * (cn q 1) + 1) 0) (am 3) (9 * (cn q 1) + 2) 0) (am 3) (9 * (cn q 1) + 3) 0) (am 3) (9 * (cn q 1) + 4) 0) (am 3) (9 * (cn q 1) + 5) 0) (am 3) (9 * (cn q 1) + 6) 0) (am 3) (9 * (cn q 1) + 7) 0) (am 3) (9 * (cn q 1) + 8) 0) (iO (zz q 2 r 0)) am (cn q 1) (cn q 1) 0 (by have := (hA).hn; omega) (by omega) hA) ml_RX5_158 mi_yX5_lays hA.k0 (by decide) (by decide +kernel) rfl (Nat.le_of_ble_eq_true rfl) (Nat.le_of_ble_eq_true rfl) (Nat.le_of_ble_eq_true rfl) (Nat.le_of_ble_eq_true rfl) (Nat.le_of_ble_eq_true rfl) dX5_begins_65 (fun u h => ?_) _ rfl
      subst h
      refine v_aload_n C 1 rfl rfl dX5_begins_68 ?_
      refine v_aload_n C 1 rfl rfl dX5_begins_69 ?_
      refine v_getI C (nI (cn q 1)) fl_RX5_71 hA.k0 hV.v44 dX5_begins_70 ?_
      refine v_iconst C 1 (by decide) dX5_begins_73 ?_
      refine v_bipush C 16 (by decide) dX5_begins_74 ?_
      refine v_aload_n C 1 rfl rfl dX5_begins_76 ?_
      refine v_getR C (am 7) fl_RX5_31 hA.k0 hA.r48 dX5_begins_77 ?_
      refine v_iload_n C 2 rfl rfl dX5_begins_80 ?_
      refine v_iald C (iO (zz q 2 r 1)) hA.k7 (by rw [hA.n7]; exact vp_in_nI (by omega) (by decide)) (by rw [nI_clamp (by omega), aI_tI2 n7_3, aI_tI2 n7_3, aI_tI2 n7_3, aI_tI2 n7_3, aI_tI2 n7_3, aI_tI2 n7_3, aI_tI2 n7_3, aI_tI2 n7_3, aI_tI2 n7_3, aI_tI2 n7_3]; exact hV.t7 r (by omega)) dX5_begins_81 ?_
      refine v_imul C dX5_begins_82 ?_
      rw [show (16 * (iO (zz q 2 r 1))) = iO (16 * zz q 2 r 1) from iO_mul 16 _]
      refine v_callVv C (st := []) [.int (nI (cn q 1)), .int 1, .int (iO (16 * zz q 2 r 1))] (c_X5_lays l (tI (tI (tI (tI (tI (tI (tI (tI (tI (tI S (am 3) (9 * (cn q 1) + 0) 0) (am 3) (9 * (cn q 1) + 1) 0) (am 3) (9 * (cn q 1) + 2) 0) (am 3) (9 * (cn q 1) + 3) 0) (am 3) (9 * (cn q 1) + 4) 0) (am 3) (9 * (cn q 1) + 5) 0) (am 3) (9 * (cn q 1) + 6) 0) (am 3) (9 * (cn q 1) + 7) 0) (am 3) (9 * (cn q 1) + 8) 0) (am 3) (9 * (cn q 1) + 0) (iO (zz q 2 r 0))) (iO (16 * zz q 2 r 1)) am (cn q 1) (cn q 1) 1 (by have := (hA).hn; omega) (by omega) hA) ml_RX5_158 mi_yX5_lays hA.k0 (by decide) (by decide +kernel) rfl (Nat.le_of_ble_eq_true rfl) (Nat.le_of_ble_eq_true rfl) (Nat.le_of_ble_eq_true rfl) (Nat.le_of_ble_eq_true rfl) (Nat.le_of_ble_eq_true rfl) dX5_begins_83 (fun u h => ?_) _ rfl
      subst h
      refine v_aload_n C 1 rfl rfl dX5_begins_86 ?_
      refine v_aload_n C 1 rfl rfl dX5_begins_87 ?_
      refine v_getI C (nI (cn q 1)) fl_RX5_71 hA.k0 hV.v44 dX5_begins_88 ?_
      refine v_iconst C 2 (by decide) dX5_begins_91 ?_
      refine v_bipush C 16 (by decide) dX5_begins_92 ?_
      refine v_aload_n C 1 rfl rfl dX5_begins_94 ?_
      refine v_getR C (am 8) fl_RX5_34 hA.k0 hA.r49 dX5_begins_95 ?_
      refine v_iload_n C 2 rfl rfl dX5_begins_98 ?_
      refine v_iald C (iO (zz q 2 r 2)) hA.k8 (by rw [hA.n8]; exact vp_in_nI (by omega) (by decide)) (by rw [nI_clamp (by omega), aI_tI2 n8_3, aI_tI2 n8_3, aI_tI2 n8_3, aI_tI2 n8_3, aI_tI2 n8_3, aI_tI2 n8_3, aI_tI2 n8_3, aI_tI2 n8_3, aI_tI2 n8_3, aI_tI2 n8_3, aI_tI2 n8_3]; exact hV.t8 r (by omega)) dX5_begins_99 ?_
      refine v_imul C dX5_begins_100 ?_
      rw [show (16 * (iO (zz q 2 r 2))) = iO (16 * zz q 2 r 2) from iO_mul 16 _]
      refine v_callVv C (st := []) [.int (nI (cn q 1)), .int 2, .int (iO (16 * zz q 2 r 2))] (c_X5_lays l (tI (tI (tI (tI (tI (tI (tI (tI (tI (tI (tI S (am 3) (9 * (cn q 1) + 0) 0) (am 3) (9 * (cn q 1) + 1) 0) (am 3) (9 * (cn q 1) + 2) 0) (am 3) (9 * (cn q 1) + 3) 0) (am 3) (9 * (cn q 1) + 4) 0) (am 3) (9 * (cn q 1) + 5) 0) (am 3) (9 * (cn q 1) + 6) 0) (am 3) (9 * (cn q 1) + 7) 0) (am 3) (9 * (cn q 1) + 8) 0) (am 3) (9 * (cn q 1) + 0) (iO (zz q 2 r 0))) (am 3) (9 * (cn q 1) + 1) (iO (16 * zz q 2 r 1))) (iO (16 * zz q 2 r 2)) am (cn q 1) (cn q 1) 2 (by have := (hA).hn; omega) (by omega) hA) ml_RX5_158 mi_yX5_lays hA.k0 (by decide) (by decide +kernel) rfl (Nat.le_of_ble_eq_true rfl) (Nat.le_of_ble_eq_true rfl) (Nat.le_of_ble_eq_true rfl) (Nat.le_of_ble_eq_true rfl) (Nat.le_of_ble_eq_true rfl) dX5_begins_101 (fun u h => ?_) _ rfl
      subst h
      refine v_aload_n C 1 rfl rfl dX5_begins_104 ?_
      refine v_aload_n C 1 rfl rfl dX5_begins_105 ?_
      refine v_getI C (nI (cn q 1)) fl_RX5_71 hA.k0 hV.v44 dX5_begins_106 ?_
      refine v_iconst C 5 (by decide) dX5_begins_109 ?_
      refine v_iconst C 1 (by decide) dX5_begins_110 ?_
      refine v_callVv C (st := []) [.int (nI (cn q 1)), .int 5, .int 1] (c_X5_lays l (tI (tI (tI (tI (tI (tI (tI (tI (tI (tI (tI (tI S (am 3) (9 * (cn q 1) + 0) 0) (am 3) (9 * (cn q 1) + 1) 0) (am 3) (9 * (cn q 1) + 2) 0) (am 3) (9 * (cn q 1) + 3) 0) (am 3) (9 * (cn q 1) + 4) 0) (am 3) (9 * (cn q 1) + 5) 0) (am 3) (9 * (cn q 1) + 6) 0) (am 3) (9 * (cn q 1) + 7) 0) (am 3) (9 * (cn q 1) + 8) 0) (am 3) (9 * (cn q 1) + 0) (iO (zz q 2 r 0))) (am 3) (9 * (cn q 1) + 1) (iO (16 * zz q 2 r 1))) (am 3) (9 * (cn q 1) + 2) (iO (16 * zz q 2 r 2))) 1 am (cn q 1) (cn q 1) 5 (by have := (hA).hn; omega) (by omega) hA) ml_RX5_158 mi_yX5_lays hA.k0 (by decide) (by decide +kernel) rfl (Nat.le_of_ble_eq_true rfl) (Nat.le_of_ble_eq_true rfl) (Nat.le_of_ble_eq_true rfl) (Nat.le_of_ble_eq_true rfl) (Nat.le_of_ble_eq_true rfl) dX5_begins_111 (fun u h => ?_) _ rfl
      subst h
      refine v_aload_n C 1 rfl rfl dX5_begins_114 ?_
      refine v_getR C (am 4) fl_RX5_21 hA.k0 hA.r45 dX5_begins_115 ?_
      refine v_aload_n C 1 rfl rfl dX5_begins_118 ?_
      refine v_getI C (nI (cn q 1)) fl_RX5_71 hA.k0 hV.v44 dX5_begins_119 ?_
      refine v_bipush C 8 (by decide) dX5_begins_122 ?_
      refine v_newa C 8 (Or.inr (Or.inl ⟨rfl, rfl⟩)) ac_char (by decide) rfl (by decide) (by show 0 + 1 ≤ 2; omega) (by show 0 + 8 ≤ 668; omega) dX5_begins_124 (fun b0 hf => ?_)
      have hfS : hK S b0 = 0 := hf
      refine v_aastCj C (cn q 1) (nI_clamp (by omega)) (hK_new hA.k4 hf) hK_nA1 (vpi hA.n4 (vp_in_nI h60 (by decide))) dX5_begins_126 ?_
      refine v_aload_n C 1 rfl rfl dX5_begins_127 ?_
      refine v_getR C (am 5) fl_RX5_25 (hK_new hA.k0 hf) hA.r46 dX5_begins_128 ?_
      refine v_aload_n C 1 rfl rfl dX5_begins_131 ?_
      refine v_getI C (nI (cn q 1)) fl_RX5_71 (hK_new hA.k0 hf) hV.v44 dX5_begins_132 ?_
      refine v_iconst C 0 (by decide) dX5_begins_135 ?_
      refine v_iastj C (cn q 1) (nI_clamp (by omega)) (hK_new hA.k5 hf) (vpi hA.n5 (vp_in_nI h60 (by decide))) dX5_begins_136 ?_
      refine v_aload_n C 1 rfl rfl dX5_begins_137 ?_
      refine v_dup C rfl dX5_begins_138 ?_
      refine v_getI C (nI (cn q 1)) fl_RX5_71 (hK_new hA.k0 hf) hV.v44 dX5_begins_139 ?_
      refine v_iconst C 1 (by decide) dX5_begins_142 ?_
      refine v_iadd C dX5_begins_143 ?_
      refine v_putI C fl_RX5_71 (hK_new hA.k0 hf) rfl rfl dX5_begins_144 ?_
      refine v_aload_n C 1 rfl rfl dX5_begins_147 ?_
      refine v_aload_n C 1 rfl rfl dX5_begins_148 ?_
      refine v_getI C ((nI (cn q 1)) + 1) fl_RX5_71 (hK_new hA.k0 hf) hI_sI1 dX5_begins_149 ?_
      refine v_iconst C 1 (by decide) dX5_begins_152 ?_
      refine v_isub C dX5_begins_153 ?_
      rw [show (((nI (cn q 1)) + 1) - 1) = (nI (cn q 1)) from nI_p1 _]
      refine v_bipush C 110 (by decide) dX5_begins_154 ?_
      have hAU : NA (tI (tI (tI (tI (tI (tI (tI (tI (tI (tI (tI (tI (tI S (am 3) (9 * (cn q 1) + 0) 0) (am 3) (9 * (cn q 1) + 1) 0) (am 3) (9 * (cn q 1) + 2) 0) (am 3) (9 * (cn q 1) + 3) 0) (am 3) (9 * (cn q 1) + 4) 0) (am 3) (9 * (cn q 1) + 5) 0) (am 3) (9 * (cn q 1) + 6) 0) (am 3) (9 * (cn q 1) + 7) 0) (am 3) (9 * (cn q 1) + 8) 0) (am 3) (9 * (cn q 1) + 0) (iO (zz q 2 r 0))) (am 3) (9 * (cn q 1) + 1) (iO (16 * zz q 2 r 1))) (am 3) (9 * (cn q 1) + 2) (iO (16 * zz q 2 r 2))) (am 3) (9 * (cn q 1) + 5) 1) am (cn q 1) := hA.of rfl rfl rfl rfl
      have o := Old.newA (S := (tI (tI (tI (tI (tI (tI (tI (tI (tI (tI (tI (tI (tI S (am 3) (9 * (cn q 1) + 0) 0) (am 3) (9 * (cn q 1) + 1) 0) (am 3) (9 * (cn q 1) + 2) 0) (am 3) (9 * (cn q 1) + 3) 0) (am 3) (9 * (cn q 1) + 4) 0) (am 3) (9 * (cn q 1) + 5) 0) (am 3) (9 * (cn q 1) + 6) 0) (am 3) (9 * (cn q 1) + 7) 0) (am 3) (9 * (cn q 1) + 8) 0) (am 3) (9 * (cn q 1) + 0) (iO (zz q 2 r 0))) (am 3) (9 * (cn q 1) + 1) (iO (16 * zz q 2 r 1))) (am 3) (9 * (cn q 1) + 2) (iO (16 * zz q 2 r 2))) (am 3) (9 * (cn q 1) + 5) 1)) (kd := 11) (n := 8) hf
      have hAn := hAU.old o
      have ff : ∀ i, i < cn q 1 → am (20 + i) ≠ b0 := fun i hi => ne_fresh (hA.kh i hi) (by decide) hfS
      have fi : ∀ i, i < 12 → am i ≠ b0 := fun i hi z => hA.nz i hi (by rw [z]; exact hfS)
      have hA2 : NA (sI (tI (tR (nA (tI (tI (tI (tI (tI (tI (tI (tI (tI (tI (tI (tI (tI S (am 3) (9 * (cn q 1) + 0) 0) (am 3) (9 * (cn q 1) + 1) 0) (am 3) (9 * (cn q 1) + 2) 0) (am 3) (9 * (cn q 1) + 3) 0) (am 3) (9 * (cn q 1) + 4) 0) (am 3) (9 * (cn q 1) + 5) 0) (am 3) (9 * (cn q 1) + 6) 0) (am 3) (9 * (cn q 1) + 7) 0) (am 3) (9 * (cn q 1) + 8) 0) (am 3) (9 * (cn q 1) + 0) (iO (zz q 2 r 0))) (am 3) (9 * (cn q 1) + 1) (iO (16 * zz q 2 r 1))) (am 3) (9 * (cn q 1) + 2) (iO (16 * zz q 2 r 2))) (am 3) (9 * (cn q 1) + 5) 1) b0 11 8) (am 4) (cn q 1) (some b0)) (am 5) (cn q 1) 0) 44 (am 0) ((nI (cn q 1)) + 1)) (amU am (cn q 1) b0) (cn (nw0 q r) 1) := (hAn.new hK_nA1 ff (by omega)).of rfl rfl rfl rfl
      obtain ⟨w1, w2, w3⟩ := rows13 S (am 3) (cn q 1) (iO (zz q 2 r 0)) (iO (16 * zz q 2 r 1)) (iO (16 * zz q 2 r 2))
      have n35 : am 3 ≠ am 5 := hA.apt (by decide) (by decide) (by decide)
      have a3 : ∀ z, aI (sI (tI (tR (nA (tI (tI (tI (tI (tI (tI (tI (tI (tI (tI (tI (tI (tI S (am 3) (9 * (cn q 1) + 0) 0) (am 3) (9 * (cn q 1) + 1) 0) (am 3) (9 * (cn q 1) + 2) 0) (am 3) (9 * (cn q 1) + 3) 0) (am 3) (9 * (cn q 1) + 4) 0) (am 3) (9 * (cn q 1) + 5) 0) (am 3) (9 * (cn q 1) + 6) 0) (am 3) (9 * (cn q 1) + 7) 0) (am 3) (9 * (cn q 1) + 8) 0) (am 3) (9 * (cn q 1) + 0) (iO (zz q 2 r 0))) (am 3) (9 * (cn q 1) + 1) (iO (16 * zz q 2 r 1))) (am 3) (9 * (cn q 1) + 2) (iO (16 * zz q 2 r 2))) (am 3) (9 * (cn q 1) + 5) 1) b0 11 8) (am 4) (cn q 1) (some b0)) (am 5) (cn q 1) 0) 44 (am 0) ((nI (cn q 1)) + 1)) (am 3) z = aI (tI (tI (tI (tI (tI (tI (tI (tI (tI (tI (tI (tI (tI S (am 3) (9 * (cn q 1) + 0) 0) (am 3) (9 * (cn q 1) + 1) 0) (am 3) (9 * (cn q 1) + 2) 0) (am 3) (9 * (cn q 1) + 3) 0) (am 3) (9 * (cn q 1) + 4) 0) (am 3) (9 * (cn q 1) + 5) 0) (am 3) (9 * (cn q 1) + 6) 0) (am 3) (9 * (cn q 1) + 7) 0) (am 3) (9 * (cn q 1) + 8) 0) (am 3) (9 * (cn q 1) + 0) (iO (zz q 2 r 0))) (am 3) (9 * (cn q 1) + 1) (iO (16 * zz q 2 r 1))) (am 3) (9 * (cn q 1) + 2) (iO (16 * zz q 2 r 2))) (am 3) (9 * (cn q 1) + 5) 1) (am 3) z := fun z => (congrFun (aI_tI2 n35) z).trans (congrFun (o (am 3) (hAU.nz 3 (by decide))).2.2.2.2.2.1 z)
      have a9 : ∀ i, i < 12 → i ≠ 3 → i ≠ 5 → aI (sI (tI (tR (nA (tI (tI (tI (tI (tI (tI (tI (tI (tI (tI (tI (tI (tI S (am 3) (9 * (cn q 1) + 0) 0) (am 3) (9 * (cn q 1) + 1) 0) (am 3) (9 * (cn q 1) + 2) 0) (am 3) (9 * (cn q 1) + 3) 0) (am 3) (9 * (cn q 1) + 4) 0) (am 3) (9 * (cn q 1) + 5) 0) (am 3) (9 * (cn q 1) + 6) 0) (am 3) (9 * (cn q 1) + 7) 0) (am 3) (9 * (cn q 1) + 8) 0) (am 3) (9 * (cn q 1) + 0) (iO (zz q 2 r 0))) (am 3) (9 * (cn q 1) + 1) (iO (16 * zz q 2 r 1))) (am 3) (9 * (cn q 1) + 2) (iO (16 * zz q 2 r 2))) (am 3) (9 * (cn q 1) + 5) 1) b0 11 8) (am 4) (cn q 1) (some b0)) (am 5) (cn q 1) 0) 44 (am 0) ((nI (cn q 1)) + 1)) (am i) = aI S (am i) := fun i hi h3 h5 => (aI_tI2 (hA.apt hi (by decide) h5)).trans ((o (am i) (hAU.nz i hi)).2.2.2.2.2.1.trans (w3 _ (hA.apt hi (by decide) h3)))
      have hV2 : NV (sI (tI (tR (nA (tI (tI (tI (tI (tI (tI (tI (tI (tI (tI (tI (tI (tI S (am 3) (9 * (cn q 1) + 0) 0) (am 3) (9 * (cn q 1) + 1) 0) (am 3) (9 * (cn q 1) + 2) 0) (am 3) (9 * (cn q 1) + 3) 0) (am 3) (9 * (cn q 1) + 4) 0) (am 3) (9 * (cn q 1) + 5) 0) (am 3) (9 * (cn q 1) + 6) 0) (am 3) (9 * (cn q 1) + 7) 0) (am 3) (9 * (cn q 1) + 8) 0) (am 3) (9 * (cn q 1) + 0) (iO (zz q 2 r 0))) (am 3) (9 * (cn q 1) + 1) (iO (16 * zz q 2 r 1))) (am 3) (9 * (cn q 1) + 2) (iO (16 * zz q 2 r 2))) (am 3) (9 * (cn q 1) + 5) 1) b0 11 8) (am 4) (cn q 1) (some b0)) (am 5) (cn q 1) 0) 44 (am 0) ((nI (cn q 1)) + 1)) (amU am (cn q 1) b0) (nw0 q r) := NV.new hV (by omega) (fun f hf2 => hI_sI2 (fun z => hf2 z.1)) (hI_sI1.trans (nI_1 _)) (fun t ht => (o (am (20 + t)) (by rw [hAU.kh t ht]; decide)).2.1) a9 (fun t ht => (aI_tI2 (ne_kinds (hA.kh t ht) hA.k5 (by decide))).trans ((o (am (20 + t)) (by rw [hAU.kh t ht]; decide)).2.2.2.2.2.1.trans (w3 _ (ne_kinds (hA.kh t ht) hA.k3 (by decide))))) (fun t ht => (aI_tI1 t).trans ((if_neg (by omega)).trans ((congrFun (o (am 5) (hAU.nz 5 (by decide))).2.2.2.2.2.1 t).trans (congrFun (w3 _ n5_3) t)))) ((aI_tI1 (cn q 1)).trans (if_pos rfl)) (fun t ht k hk => (a3 _).trans (w1 _ (fun k2 hk2 => by omega))) (fun k hk => (a3 _).trans ((w2 k hk).trans (bgn_O q r k hk))) hN_nA1
      have hSG2 : SGB (nw0 q r) := nw0_SG hSG
      have key := c_X5_notes l (sI (tI (tR (nA (tI (tI (tI (tI (tI (tI (tI (tI (tI (tI (tI (tI (tI S (am 3) (9 * (cn q 1) + 0) 0) (am 3) (9 * (cn q 1) + 1) 0) (am 3) (9 * (cn q 1) + 2) 0) (am 3) (9 * (cn q 1) + 3) 0) (am 3) (9 * (cn q 1) + 4) 0) (am 3) (9 * (cn q 1) + 5) 0) (am 3) (9 * (cn q 1) + 6) 0) (am 3) (9 * (cn q 1) + 7) 0) (am 3) (9 * (cn q 1) + 8) 0) (am 3) (9 * (cn q 1) + 0) (iO (zz q 2 r 0))) (am 3) (9 * (cn q 1) + 1) (iO (16 * zz q 2 r 1))) (am 3) (9 * (cn q 1) + 2) (iO (16 * zz q 2 r 2))) (am 3) (9 * (cn q 1) + 5) 1) b0 11 8) (am 4) (cn q 1) (some b0)) (am 5) (cn q 1) 0) 44 (am 0) ((nI (cn q 1)) + 1)) (amU am (cn q 1) b0) (nw0 q r) hA2 hV2 hSG2 (cn q 1) 110 110 rfl (by decide) (by show cn q 1 < cn q 1 + 1; omega) (by rw [nw0_cnt]; omega)
      rw [show amU am (cn q 1) b0 0 = am 0 from amUl (by omega)] at key
      refine v_callVv C (st := []) [.int (nI (cn q 1)), .int 110] key ml_RX5_162 mi_yX5_notes (show hK (sI (tI (tR (nA (tI (tI (tI (tI (tI (tI (tI (tI (tI (tI (tI (tI (tI S (am 3) (9 * (cn q 1) + 0) 0) (am 3) (9 * (cn q 1) + 1) 0) (am 3) (9 * (cn q 1) + 2) 0) (am 3) (9 * (cn q 1) + 3) 0) (am 3) (9 * (cn q 1) + 4) 0) (am 3) (9 * (cn q 1) + 5) 0) (am 3) (9 * (cn q 1) + 6) 0) (am 3) (9 * (cn q 1) + 7) 0) (am 3) (9 * (cn q 1) + 8) 0) (am 3) (9 * (cn q 1) + 0) (iO (zz q 2 r 0))) (am 3) (9 * (cn q 1) + 1) (iO (16 * zz q 2 r 1))) (am 3) (9 * (cn q 1) + 2) (iO (16 * zz q 2 r 2))) (am 3) (9 * (cn q 1) + 5) 1) b0 11 8) (am 4) (cn q 1) (some b0)) (am 5) (cn q 1) 0) 44 (am 0) ((nI (cn q 1)) + 1)) (am 0) = 6 from hAn.k0) (by decide) (by decide +kernel) rfl (Nat.le_of_ble_eq_true rfl) (Nat.le_of_ble_eq_true rfl) (Nat.le_of_ble_eq_true rfl) (by show 0 + 1 + 1 ≤ 2; omega) (by show 0 + 8 + 660 ≤ 668; omega) dX5_begins_156 (fun u h => ?_) _ rfl
      obtain ⟨am2, e2, gA, gV, gF⟩ := h
      rw [nw0_nt] at gV
      exact v_vret C hRT (Nat.le_of_ble_eq_true rfl) (Nat.le_of_ble_eq_true rfl) dX5_begins_159 (by rw [bgn_new hneg]; exact ⟨rfl, am2, fun i hi => (e2 i (by omega)).trans (amUl (by omega)), gA, gV, ⟨(by have h9 := gF.1 61 (am 0) (show hK (sI (tI (tR (nA (tI (tI (tI (tI (tI (tI (tI (tI (tI (tI (tI (tI (tI S (am 3) (9 * (cn q 1) + 0) 0) (am 3) (9 * (cn q 1) + 1) 0) (am 3) (9 * (cn q 1) + 2) 0) (am 3) (9 * (cn q 1) + 3) 0) (am 3) (9 * (cn q 1) + 4) 0) (am 3) (9 * (cn q 1) + 5) 0) (am 3) (9 * (cn q 1) + 6) 0) (am 3) (9 * (cn q 1) + 7) 0) (am 3) (9 * (cn q 1) + 8) 0) (am 3) (9 * (cn q 1) + 0) (iO (zz q 2 r 0))) (am 3) (9 * (cn q 1) + 1) (iO (16 * zz q 2 r 1))) (am 3) (9 * (cn q 1) + 2) (iO (16 * zz q 2 r 2))) (am 3) (9 * (cn q 1) + 5) 1) b0 11 8) (am 4) (cn q 1) (some b0)) (am 5) (cn q 1) 0) 44 (am 0) ((nI (cn q 1)) + 1)) (am 0) ≠ 0 by rw [show hK (sI (tI (tR (nA (tI (tI (tI (tI (tI (tI (tI (tI (tI (tI (tI (tI (tI S (am 3) (9 * (cn q 1) + 0) 0) (am 3) (9 * (cn q 1) + 1) 0) (am 3) (9 * (cn q 1) + 2) 0) (am 3) (9 * (cn q 1) + 3) 0) (am 3) (9 * (cn q 1) + 4) 0) (am 3) (9 * (cn q 1) + 5) 0) (am 3) (9 * (cn q 1) + 6) 0) (am 3) (9 * (cn q 1) + 7) 0) (am 3) (9 * (cn q 1) + 8) 0) (am 3) (9 * (cn q 1) + 0) (iO (zz q 2 r 0))) (am 3) (9 * (cn q 1) + 1) (iO (16 * zz q 2 r 1))) (am 3) (9 * (cn q 1) + 2) (iO (16 * zz q 2 r 2))) (am 3) (9 * (cn q 1) + 5) 1) b0 11 8) (am 4) (cn q 1) (some b0)) (am 5) (cn q 1) 0) 44 (am 0) ((nI (cn q 1)) + 1)) (am 0) = 6 from hAn.k0]; decide); exact h9.trans (hI_sI2 (fun z => absurd z.1 (by decide)))), (by have h9 := gF.2.2 10 (by decide) (by decide); rw [show amU am (cn q 1) b0 10 = am 10 from amUl (by omega)] at h9; exact h9.trans (a9 10 (by decide) (by decide) (by decide)))⟩⟩)
    · refine v_aload_n C 0 rfl rfl dX5_begins_18 ?_
      refine v_dup C rfl dX5_begins_19 ?_
      refine v_getI C (nI (cn q 3)) fl_RX5_170 hA.k0 hV.v56 dX5_begins_20 ?_
      refine v_iconst C 1 (by decide) dX5_begins_23 ?_
      refine v_iadd C dX5_begins_24 ?_
      refine v_putI C fl_RX5_170 hA.k0 rfl rfl dX5_begins_25 ?_
      exact v_vret C hRT (Nat.le_of_ble_eq_true rfl) (Nat.le_of_ble_eq_true rfl) dX5_begins_28 (by have e9 : bgnA q r = cs q 3 (cn q 3 + 1) := bgn_drop (Or.inr (by have := nI_inj (b := 60) (Classical.not_not.mp c15) (by have := hA.hn; omega) (by decide); omega)); rw [e9]; exact ⟨rfl, am, fun _ _ => rfl, hA.of rfl rfl rfl rfl, NV.drop hA hV, ⟨hI_sI2 (fun z => absurd z.1 (by decide)), rfl⟩⟩)
