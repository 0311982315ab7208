/-- a new track's row, before its first sign -/
def nw0 (q : AS) (r : Nat) : AS := ((fun k => if k = 1 then cn q 1 + 1 else if k = 100 + cn q 1 then 0 else cn q k), fun i j k => if i = 3 ∧ j = cn q 1 then bgnR q r k else zz q i j k)
theorem nw0_cnt (q : AS) (r : Nat) : cn (nw0 q r) (100 + cn q 1) = 0 := by
  show (if 100 + cn q 1 = 1 then _ else if 100 + cn q 1 = 100 + cn q 1 then 0 else _) = 0
  rw [if_neg (by omega), if_pos rfl]
theorem nw0_cn (q : AS) (r : Nat) {k : Nat} (h : k ≠ 1) (h2 : k ≠ 100 + cn q 1) : cn (nw0 q r) k = cn q k := by
  show (if k = 1 then _ else if k = 100 + cn q 1 then 0 else _) = _
  rw [if_neg h, if_neg h2]
theorem nw0_zz (q : AS) (r : Nat) {i j k : Nat} (h : ¬ (i = 3 ∧ j = cn q 1)) : zz (nw0 q r) i j k = zz q i j k := if_neg h
theorem nw0_row (q : AS) (r k : Nat) : zz (nw0 q r) 3 (cn q 1) k = bgnR q r k := if_pos ⟨rfl, rfl⟩
theorem nw0_nt (q : AS) (r : Nat) : ntA (nw0 q r) (cn q 1) 110 = newA q r := by
  refine Prod.ext ?_ ?_
  · funext k
    show (if k = 100 + cn q 1 then cn (nw0 q r) (100 + cn q 1) + 1 else cn (nw0 q r) k) = (if k = 1 then cn q 1 + 1 else if k = 100 + cn q 1 then 1 else cn q k)
    rw [nw0_cnt]
    by_cases h1 : k = 1
    · subst h1
      rw [if_neg (by omega), if_pos rfl]
      rfl
    · rw [if_neg h1]
      by_cases h2 : k = 100 + cn q 1
      · rw [if_pos h2, if_pos h2]
      · rw [if_neg h2, if_neg h2]
        exact nw0_cn q r h1 h2
  · funext i j k
    show (if i = 4 ∧ j = cn q 1 ∧ k = cn (nw0 q r) (100 + cn q 1) then (110 : Int) else zz (nw0 q r) i j k) = (if i = 3 ∧ j = cn q 1 then bgnR q r k else if i = 4 ∧ j = cn q 1 ∧ k = 0 then 110 else zz q i j k)
    rw [nw0_cnt]
    by_cases h1 : i = 3 ∧ j = cn q 1
    · rw [if_pos h1, if_neg (by omega)]
      exact if_pos h1
    · rw [if_neg h1]
      by_cases h2 : i = 4 ∧ j = cn q 1 ∧ k = 0
      · rw [if_pos h2, if_pos h2]
      · rw [if_neg h2, if_neg h2]
        exact if_neg h1
theorem NV.drop {S : HS} {am : AM} {q : AS} (hA : NA S am (cn q 1)) (hV : NV S am q) : NV (sI S 56 (am 0) (nI (cn q 3) + 1)) am (cs q 3 (cn q 3 + 1)) := by
  have r1 : ∀ f, f ≠ 56 → ∀ a, hI (sI S 56 (am 0) (nI (cn q 3) + 1)) f a = hI S f a := fun f hf a => hI_sI2 (fun z => hf z.1)
  have c : ∀ k, k ≠ 3 → cn (cs q 3 (cn q 3 + 1)) k = cn q k := fun k hk => by rw [cn_cs, if_neg hk]
  refine ⟨by rw [r1 _ (by decide), c 1 (by decide)]; exact hV.v44, by rw [r1 _ (by decide), c 0 (by decide)]; exact hV.v50, by rw [r1 _ (by decide)]; exact hV.v51, by rw [r1 _ (by decide)]; exact hV.v52, by rw [r1 _ (by decide)]; exact hV.v53, by rw [r1 _ (by decide)]; exact hV.v54, by rw [r1 _ (by decide)]; exact hV.v55, by rw [cn_cs, if_pos rfl]; exact hI_sI1.trans (nI_1 _), by rw [r1 _ (by decide), c 2 (by decide)]; exact hV.v57,
    fun i hi => by rw [c _ (by omega)]; exact hV.pm i hi, fun i hi h k hk => by rw [c _ (by omega)] at h; exact hV.p1 i hi h k hk, fun i hi h k hk => by rw [c _ (by omega)] at h; exact hV.p2 i hi h k hk, fun t ht k hk => ?_, fun t ht => ?_, fun t ht j hj => ?_, fun t ht => ?_, fun r hr => hV.t6 r hr, fun r hr => hV.t7 r hr, fun r hr => hV.t8 r hr⟩
  all_goals rw [c 1 (by decide)] at ht
  · exact hV.m t ht k hk
  · rw [c _ (by omega)]; exact hV.hm t ht
  · rw [c _ (by omega)] at hj; exact hV.hr t ht j hj
  · rw [c _ (by omega)]; exact hV.hl t ht
theorem NA.new {T : HS} {am : AM} {n b0 : Nat} (h : NA T am n) (hb : hK T b0 = 11) (hf : ∀ i, i < n → am (20 + i) ≠ b0) (hn : n + 1 ≤ 60) : NA (tR T (am 4) n (some b0)) (amU am n b0) (n + 1) :=
  ⟨by rw [amUl (by omega)]; exact h.k0,
    by rw [amUl (by omega)]; exact h.k1,
    by rw [amUl (by omega)]; exact h.k2,
    by rw [amUl (by omega)]; exact h.k3,
    by rw [amUl (by omega)]; exact h.k5,
    by rw [amUl (by omega)]; exact h.k6,
    by rw [amUl (by omega)]; exact h.k7,
    by rw [amUl (by omega)]; exact h.k8,
    by rw [amUl (by omega)]; exact h.k9,
    by rw [amUl (by omega)]; exact h.k10,
    by rw [amUl (by omega)]; exact h.k11,
    by rw [amUl (by omega)]; exact h.k4,
    upto (P := fun i => hK (tR T (am 4) n (some b0)) (amU am n b0 (20 + i)) = 11) (fun i hi => by rw [amUl (by omega)]; exact h.kh i hi) (by rw [amUt]; exact hb),
    by rw [amUl (by omega), amUl (by omega)]; exact h.r41,
    by rw [amUl (by omega), amUl (by omega)]; exact h.r42,
    by rw [amUl (by omega), amUl (by omega)]; exact h.r43,
    by rw [amUl (by omega), amUl (by omega)]; exact h.r45,
    by rw [amUl (by omega), amUl (by omega)]; exact h.r46,
    by rw [amUl (by omega), amUl (by omega)]; exact h.r47,
    by rw [amUl (by omega), amUl (by omega)]; exact h.r48,
    by rw [amUl (by omega), amUl (by omega)]; exact h.r49,
    by rw [amUl (by omega), amUl (by omega)]; exact h.r58,
    by rw [amUl (by omega), amUl (by omega)]; exact h.r59,
    by rw [amUl (by omega), amUl (by omega)]; exact h.r62,
    by rw [amUl (by omega)]; exact h.n1,
    by rw [amUl (by omega)]; exact h.n2,
    by rw [amUl (by omega)]; exact h.n3,
    by rw [amUl (by omega)]; exact h.n4,
    by rw [amUl (by omega)]; exact h.n5,
    by rw [amUl (by omega)]; exact h.n6,
    by rw [amUl (by omega)]; exact h.n7,
    by rw [amUl (by omega)]; exact h.n8,
    by rw [amUl (by omega)]; exact h.n9,
    by rw [amUl (by omega)]; exact h.n10,
    by rw [amUl (by omega)]; exact h.n11,
    upto (P := fun i => aR (tR T (am 4) n (some b0)) (amU am n b0 4) i = some (amU am n b0 (20 + i))) (fun i hi => by rw [amUl (by omega), amUl (by omega), aR_tR1, if_neg (by omega)]; exact h.a4 i hi) (by rw [amUl (by omega), amUt, aR_tR1, if_pos rfl]),
    fun i hi j hj e => by
      rw [amUl (by omega), amUl (by omega)] at e
      exact h.jj i hi j hj e,
    fun i hi j hj e => by
      by_cases ei : i = n <;> by_cases ej : j = n
      · omega
      · rw [ei, amUt, amUl (by omega)] at e; exact absurd e.symm (hf j (by omega))
      · rw [ej, amUt, amUl (by omega)] at e; exact absurd e (hf i (by omega))
      · rw [amUl (by omega), amUl (by omega)] at e; exact h.jh i (by omega) j (by omega) e,
    hn⟩
theorem NV.new {S T : HS} {am : AM} {q : AS} {r b0 : Nat} (hV : NV S am q) (hn : cn q 1 + 1 ≤ 60) (fI : ∀ f, f ≠ 44 → hI T f (am 0) = hI S f (am 0)) (h44 : hI T 44 (am 0) = nI (cn q 1 + 1)) (fN : ∀ t, t < cn q 1 → hN T (am (20 + t)) = hN S (am (20 + t))) (fA : ∀ i, i < 12 → i ≠ 3 → i ≠ 5 → aI T (am i) = aI S (am i)) (fH : ∀ t, t < cn q 1 → aI T (am (20 + t)) = aI S (am (20 + t)))
    (f5 : ∀ t, t < cn q 1 → aI T (am 5) t = aI S (am 5) t) (f5n : aI T (am 5) (cn q 1) = 0) (f3 : ∀ t, t < cn q 1 → ∀ k, k < 9 → aI T (am 3) (9 * t + k) = aI S (am 3) (9 * t + k)) (f3n : ∀ k, k < 9 → aI T (am 3) (9 * cn q 1 + k) = iO (bgnR q r k)) (hb : hN T b0 = 8) : NV T (amU am (cn q 1) b0) (nw0 q r) := by
  have u : ∀ i, i < 20 → amU am (cn q 1) b0 i = am i := fun i hi => amUl (by omega)
  have c : ∀ k, k < 100 → k ≠ 1 → cn (nw0 q r) k = cn q k := fun k h1 h2 => nw0_cn q r h2 (by omega)
  have z : ∀ i, i ≠ 3 → ∀ j k, zz (nw0 q r) i j k = zz q i j k := fun i hi j k => nw0_zz q r (fun y => hi y.1)
  have e1 : cn (nw0 q r) 1 = cn q 1 + 1 := rfl
  refine ⟨by rw [u 0 (by decide), e1]; exact h44, by rw [u 0 (by decide), fI _ (by decide), c 0 (by decide) (by decide)]; exact hV.v50, by rw [u 0 (by decide), fI _ (by decide), z 0 (by decide)]; exact hV.v51, by rw [u 0 (by decide), fI _ (by decide), z 0 (by decide)]; exact hV.v52, by rw [u 0 (by decide), fI _ (by decide), z 0 (by decide)]; exact hV.v53, by rw [u 0 (by decide), fI _ (by decide), z 0 (by decide)]; exact hV.v54, by rw [u 0 (by decide), fI _ (by decide), z 0 (by decide)]; exact hV.v55, by rw [u 0 (by decide), fI _ (by decide), c 3 (by decide) (by decide)]; exact hV.v56, by rw [u 0 (by decide), fI _ (by decide), c 2 (by decide) (by decide)]; exact hV.v57,
    fun i hi => by rw [u 2 (by decide), fA 2 (by decide) (by decide) (by decide), c _ (by omega) (by omega)]; exact hV.pm i hi, fun i hi h k hk => ?_, fun i hi h k hk => ?_, ?_, ?_, ?_, ?_, fun t ht => by rw [u 6 (by decide), fA 6 (by decide) (by decide) (by decide), z 2 (by decide)]; exact hV.t6 t ht, fun t ht => by rw [u 7 (by decide), fA 7 (by decide) (by decide) (by decide), z 2 (by decide)]; exact hV.t7 t ht, fun t ht => by rw [u 8 (by decide), fA 8 (by decide) (by decide) (by decide), z 2 (by decide)]; exact hV.t8 t ht⟩
  · rw [c _ (by omega) (by omega)] at h
    rw [u 1 (by decide), fA 1 (by decide) (by decide) (by decide), z 1 (by decide)]; exact hV.p1 i hi h k hk
  · rw [c _ (by omega) (by omega)] at h
    rw [u 1 (by decide), fA 1 (by decide) (by decide) (by decide), z 1 (by decide)]; exact hV.p2 i hi h k hk
  all_goals rw [e1]
  · refine upto (fun t ht k hk => ?_) (fun k hk => ?_)
    · rw [u 3 (by decide), nw0_zz q r (by omega), f3 t ht k hk]; exact hV.m t ht k hk
    · rw [u 3 (by decide), nw0_row]; exact f3n k hk
  · refine upto (fun t ht => ?_) ?_
    · rw [u 5 (by decide), nw0_cn q r (by omega) (by omega), f5 t ht]; exact hV.hm t ht
    · rw [u 5 (by decide), nw0_cnt, f5n]; rfl
  · refine upto (fun t ht j hj => ?_) (fun j hj => ?_)
    · rw [nw0_cn q r (by omega) (by omega)] at hj
      rw [amUl (by omega), fH t ht, z 4 (by decide)]; exact hV.hr t ht j hj
    · rw [nw0_cnt] at hj; exact absurd hj (Nat.not_lt_zero j)
  · refine upto (fun t ht => ?_) ?_
    · rw [nw0_cn q r (by omega) (by omega), amUl (by omega), fN t ht]; exact hV.hl t ht
    · rw [nw0_cnt, amUt, hb]; omega
theorem nI_p1 (n : Nat) : nI n + 1 - 1 = nI n := by rw [nI_1, nI_m1]
theorem rows13 (S : HS) (a c : Nat) (v0 v1 v2 : Int32) : (∀ z, (∀ k, k < 9 → z ≠ 9 * c + k) → aI (tI (tI (tI (tI (tI (tI (tI (tI (tI (tI (tI (tI (tI S a (9 * c + 0) 0) a (9 * c + 1) 0) a (9 * c + 2) 0) a (9 * c + 3) 0) a (9 * c + 4) 0) a (9 * c + 5) 0) a (9 * c + 6) 0) a (9 * c + 7) 0) a (9 * c + 8) 0) a (9 * c + 0) v0) a (9 * c + 1) v1) a (9 * c + 2) v2) a (9 * c + 5) 1) a z = aI S a z) ∧ (∀ k, k < 9 → aI (tI (tI (tI (tI (tI (tI (tI (tI (tI (tI (tI (tI (tI S a (9 * c + 0) 0) a (9 * c + 1) 0) a (9 * c + 2) 0) a (9 * c + 3) 0) a (9 * c + 4) 0) a (9 * c + 5) 0) a (9 * c + 6) 0) a (9 * c + 7) 0) a (9 * c + 8) 0) a (9 * c + 0) v0) a (9 * c + 1) v1) a (9 * c + 2) v2) a (9 * c + 5) 1) a (9 * c + k) = if k = 0 then v0 else if k = 1 then v1 else if k = 2 then v2 else if k = 5 then 1 else 0) ∧ (∀ b, b ≠ a → aI (tI (tI (tI (tI (tI (tI (tI (tI (tI (tI (tI (tI (tI S a (9 * c + 0) 0) a (9 * c + 1) 0) a (9 * c + 2) 0) a (9 * c + 3) 0) a (9 * c + 4) 0) a (9 * c + 5) 0) a (9 * c + 6) 0) a (9 * c + 7) 0) a (9 * c + 8) 0) a (9 * c + 0) v0) a (9 * c + 1) v1) a (9 * c + 2) v2) a (9 * c + 5) 1) b = aI S b) := by
  refine ⟨fun z hz => ?_, fun k hk => ?_, fun b hb => ?_⟩
  · rw [aI_tI1, if_neg (hz 5 (by decide)), aI_tI1, if_neg (hz 2 (by decide)), aI_tI1, if_neg (hz 1 (by decide)), aI_tI1, if_neg (hz 0 (by decide)), aI_tI1, if_neg (hz 8 (by decide)), aI_tI1, if_neg (hz 7 (by decide)), aI_tI1, if_neg (hz 6 (by decide)), aI_tI1, if_neg (hz 5 (by decide)), aI_tI1, if_neg (hz 4 (by decide)), aI_tI1, if_neg (hz 3 (by decide)), aI_tI1, if_neg (hz 2 (by decide)), aI_tI1, if_neg (hz 1 (by decide)), aI_tI1, if_neg (hz 0 (by decide))]
  · rcases (show k = 0 ∨ k = 1 ∨ k = 2 ∨ k = 3 ∨ k = 4 ∨ k = 5 ∨ k = 6 ∨ k = 7 ∨ k = 8 by omega) with rfl | rfl | rfl | rfl | rfl | rfl | rfl | rfl | rfl
    · rw [aI_tI1, if_neg (by omega), aI_tI1, if_neg (by omega), aI_tI1, if_neg (by omega), aI_tI1, if_pos rfl]; rfl
    · rw [aI_tI1, if_neg (by omega), aI_tI1, if_neg (by omega), aI_tI1, if_pos rfl]; rfl
    · rw [aI_tI1, if_neg (by omega), aI_tI1, if_pos rfl]; rfl
    · rw [aI_tI1, if_neg (by omega), aI_tI1, if_neg (by omega), aI_tI1, if_neg (by omega), aI_tI1, if_neg (by omega), aI_tI1, if_neg (by omega), aI_tI1, if_neg (by omega), aI_tI1, if_neg (by omega), aI_tI1, if_neg (by omega), aI_tI1, if_neg (by omega), aI_tI1, if_pos rfl]; rfl
    · rw [aI_tI1, if_neg (by omega), aI_tI1, if_neg (by omega), aI_tI1, if_neg (by omega), aI_tI1, if_neg (by omega), aI_tI1, if_neg (by omega), aI_tI1, if_neg (by omega), aI_tI1, if_neg (by omega), aI_tI1, if_neg (by omega), aI_tI1, if_pos rfl]; rfl
    · rw [aI_tI1, if_pos rfl]; rfl
    · rw [aI_tI1, if_neg (by omega), aI_tI1, if_neg (by omega), aI_tI1, if_neg (by omega), aI_tI1, if_neg (by omega), aI_tI1, if_neg (by omega), aI_tI1, if_neg (by omega), aI_tI1, if_pos rfl]; rfl
    · rw [aI_tI1, if_neg (by omega), aI_tI1, if_neg (by omega), aI_tI1, if_neg (by omega), aI_tI1, if_neg (by omega), aI_tI1, if_neg (by omega), aI_tI1, if_pos rfl]; rfl
    · rw [aI_tI1, if_neg (by omega), aI_tI1, if_neg (by omega), aI_tI1, if_neg (by omega), aI_tI1, if_neg (by omega), aI_tI1, if_pos rfl]; rfl
  · rw [aI_tI2 hb, aI_tI2 hb, aI_tI2 hb, aI_tI2 hb, aI_tI2 hb, aI_tI2 hb, aI_tI2 hb, aI_tI2 hb, aI_tI2 hb, aI_tI2 hb, aI_tI2 hb, aI_tI2 hb, aI_tI2 hb]
theorem hI_tR (S : HS) (b j : Nat) (v : Option Nat) (f a : Nat) : hI (tR S b j v) f a = hI S f a := rfl
theorem hN_tI (S : HS) (b j : Nat) (v : Int32) (a : Nat) : hN (tI S b j v) a = hN S a := rfl
theorem hN_tR (S : HS) (b j : Nat) (v : Option Nat) (a : Nat) : hN (tR S b j v) a = hN S a := rfl
theorem hN_sI (S : HS) (f b : Nat) (v : Int32) (a : Nat) : hN (sI S f b v) a = hN S a := rfl
theorem aI_tR (S : HS) (b j : Nat) (v : Option Nat) (a : Nat) : aI (tR S b j v) a = aI S a := rfl
theorem hK_tI (S : HS) (b j : Nat) (v : Int32) (a : Nat) : hK (tI S b j v) a = hK S a := rfl
theorem bgn_O (q : AS) (r k : Nat) (hk : k < 9) : (if k = 0 then iO (zz q 2 r 0) else if k = 1 then iO (16 * zz q 2 r 1) else if k = 2 then iO (16 * zz q 2 r 2) else if k = 5 then (1 : Int32) else 0) = iO (bgnR q r k) := by
  rcases (show k = 0 ∨ k = 1 ∨ k = 2 ∨ k = 3 ∨ k = 4 ∨ k = 5 ∨ k = 6 ∨ k = 7 ∨ k = 8 by omega) with rfl | rfl | rfl | rfl | rfl | rfl | rfl | rfl | rfl <;> rfl
theorem nw0_SG {q : AS} {r : Nat} (h : SGB q) : SGB (nw0 q r) := fun t ht k hk => by
  have ht2 : t < cn q 1 + 1 := ht
  by_cases e : t = cn q 1
  · subst e
    rw [nw0_cnt] at hk
    exact absurd hk (Nat.not_lt_zero k)
  · rw [nw0_cn q r (by omega) (by omega)] at hk
    rw [nw0_zz q r (by omega)]
    exact h t (by omega) k hk
set_option maxRecDepth 100000 in
set_option maxHeartbeats 4000000 in
theorem sg_X5_begins {l : Launch} {pP : Program} {eE : Env} {sS : State} {mM : MethodId} {aA : Array Value} {bB : List Frame} {tT : Method} {cC : Code} {G : GT} {A : Nat → Prop} {Q : State → Prop} (S : HS) (am : AM) (q : AS) (r : Nat) (S0 : HS) (h60 : cn q 1 < 60) (hA : NA S am (cn q 1)) (hV0 : NV S0 am q) (hSG : SGB q) (fI : ∀ f, hI S f (am 0) = hI S0 f (am 0)) (fN : ∀ a, hN S a = hN S0 a) (w1 : ∀ z, (∀ k, k < 9 → z ≠ 9 * cn q 1 + k) → aI S (am 3) z = aI S0 (am 3) z) (w2 : ∀ k, k < 9 → aI S (am 3) (9 * cn q 1 + k) = iO (bgnR q r k)) (w3 : ∀ b, b ≠ am 3 → aI S b = aI S0 b)  (C : Cx pP l eE (rmD 8 2 668) sS mM aA bB tT cC cX5_begins 3 RX5 G A) (kk : ∀ (u : HS) (am2 : AM), (∀ i, i < 20 → am2 i = am i) → NA u am2 (cn (newA q r) 1) → NV u am2 (newA q r) → FrP S0 u am → V pP l eE (rmD 8 2 668) sS mM aA bB tT cC 3 G A u (0 + 1 + 1) (0 + 8 + 660) Q 159 [(0, .ref (am 0)), (1, .int (nI r))] []) : V pP l eE (rmD 8 2 668) sS mM aA bB tT cC 3 G A S 0 0 Q 114 [(0, .ref (am 0)), (1, .int (nI r))] [] := by
  have hv44 : hI S 44 (am 0) = nI (cn q 1) := (fI 44).trans hV0.v44
  refine v_aload_n C 0 rfl rfl dX5_begins_114 ?_
  refine v_getR C (am 4) fl_RX5_21 hA.k0 hA.r45 dX5_begins_115 ?_
  refine v_aload_n C 0 rfl rfl dX5_begins_118 ?_
  refine v_getI C (nI (cn q 1)) fl_RX5_71 hA.k0 hv44 dX5_begins_119 ?_
  refine v_bipush C 8 (by decide) dX5_begins_122 ?_
  refine v_newa C 8 (Or.inr (Or.inl ⟨rfl, rfl⟩)) ac_char (by decide) rfl (by decide) (by show 0 + 1 ≤ 2; omega) (by show 0 + 8 ≤ 668; omega) dX5_begins_124 (fun b0 hf => ?_)
  have o := Old.newA (S := S) (kd := 11) (n := 8) hf
  have hAn := hA.old o
  have hv44n : hI (nA S b0 11 8) 44 (am 0) = nI (cn q 1) := by rw [hI_nA]; exact hv44
  refine v_aastCj C (cn q 1) (nI_clamp (by omega)) hAn.k4 hK_nA1 (vpi hAn.n4 (vp_in_nI h60 (by decide))) dX5_begins_126 ?_
  refine v_aload_n C 0 rfl rfl dX5_begins_127 ?_
  refine v_getR C (am 5) fl_RX5_25 hAn.k0 hAn.r46 dX5_begins_128 ?_
  refine v_aload_n C 0 rfl rfl dX5_begins_131 ?_
  refine v_getI C (nI (cn q 1)) fl_RX5_71 hAn.k0 hv44n dX5_begins_132 ?_
  refine v_iconst C 0 (by decide) dX5_begins_135 ?_
  refine v_iastj C (cn q 1) (nI_clamp (by omega)) hAn.k5 (vpi hAn.n5 (vp_in_nI h60 (by decide))) dX5_begins_136 ?_
  refine v_aload_n C 0 rfl rfl dX5_begins_137 ?_
  refine v_dup C rfl dX5_begins_138 ?_
  refine v_getI C (nI (cn q 1)) fl_RX5_71 hAn.k0 hv44n dX5_begins_139 ?_
  refine v_iconst C 1 (by decide) dX5_begins_142 ?_
  refine v_iadd C dX5_begins_143 ?_
  refine v_putI C fl_RX5_71 hAn.k0 rfl rfl dX5_begins_144 ?_
  refine v_aload_n C 0 rfl rfl dX5_begins_147 ?_
  refine v_aload_n C 0 rfl rfl dX5_begins_148 ?_
  refine v_getI C ((nI (cn q 1)) + 1) fl_RX5_71 hAn.k0 hI_sI1 dX5_begins_149 ?_
  refine v_iconst C 1 (by decide) dX5_begins_152 ?_
  refine v_isub C dX5_begins_153 ?_
  rw [show (((nI (cn q 1)) + 1) - 1) = (nI (cn q 1)) from nI_p1 _]
  refine v_bipush C 110 (by decide) dX5_begins_154 ?_
  have ff : ∀ i, i < cn q 1 → am (20 + i) ≠ b0 := fun i hi => ne_fresh (hA.kh i hi) (by decide) hf
  have hA2 : NA (sI (tI (tR (nA S b0 11 8) (am 4) (cn q 1) (some b0)) (am 5) (cn q 1) 0) 44 (am 0) ((nI (cn q 1)) + 1)) (amU am (cn q 1) b0) (cn (nw0 q r) 1) := (hAn.new hK_nA1 ff (by omega)).tI.I
  have hx : ∀ f a, hI (tI (tR (nA S b0 11 8) (am 4) (cn q 1) (some b0)) (am 5) (cn q 1) 0) f a = hI S f a := fun f a => by rw [hI_tI, hI_tR, hI_nA]
  have ax : ∀ b, aI (sI (tI (tR (nA S b0 11 8) (am 4) (cn q 1) (some b0)) (am 5) (cn q 1) 0) 44 (am 0) ((nI (cn q 1)) + 1)) b = aI (tI (tR (nA S b0 11 8) (am 4) (cn q 1) (some b0)) (am 5) (cn q 1) 0) b := fun b => by rw [aI_sI]
  have ay : ∀ b, b ≠ am 5 → hK S b ≠ 0 → aI (sI (tI (tR (nA S b0 11 8) (am 4) (cn q 1) (some b0)) (am 5) (cn q 1) 0) 44 (am 0) ((nI (cn q 1)) + 1)) b = aI S b := fun b h5 hk => by rw [ax, aI_tI2 h5, aI_tR]; exact (o b hk).2.2.2.2.2.1
  have a5 : ∀ z, aI (sI (tI (tR (nA S b0 11 8) (am 4) (cn q 1) (some b0)) (am 5) (cn q 1) 0) 44 (am 0) ((nI (cn q 1)) + 1)) (am 5) z = if z = cn q 1 then 0 else aI S (am 5) z := fun z => by rw [ax, aI_tI1, aI_tR, (o (am 5) (hA.nz 5 (by decide))).2.2.2.2.2.1]
  have a3 : aI (sI (tI (tR (nA S b0 11 8) (am 4) (cn q 1) (some b0)) (am 5) (cn q 1) 0) 44 (am 0) ((nI (cn q 1)) + 1)) (am 3) = aI S (am 3) := ay _ (hA.apt (by decide) (by decide) (by decide)) (hA.nz 3 (by decide))
  have a9 : ∀ i, i < 12 → i ≠ 3 → i ≠ 5 → aI (sI (tI (tR (nA S b0 11 8) (am 4) (cn q 1) (some b0)) (am 5) (cn q 1) 0) 44 (am 0) ((nI (cn q 1)) + 1)) (am i) = aI S0 (am i) := fun i hi h3 h5 => (ay _ (hA.apt hi (by decide) h5) (hA.nz i hi)).trans (w3 _ (hA.apt hi (by decide) h3))
  have n9 : ∀ a, hN (sI (tI (tR (nA S b0 11 8) (am 4) (cn q 1) (some b0)) (am 5) (cn q 1) 0) 44 (am 0) ((nI (cn q 1)) + 1)) a = hN (nA S b0 11 8) a := fun a => by rw [hN_sI, hN_tI, hN_tR]
  have hI9 : ∀ f, f ≠ 44 → hI (sI (tI (tR (nA S b0 11 8) (am 4) (cn q 1) (some b0)) (am 5) (cn q 1) 0) 44 (am 0) ((nI (cn q 1)) + 1)) f (am 0) = hI S0 f (am 0) := fun f hf2 => (hI_sI2 (fun z => hf2 z.1)).trans ((hx f _).trans (fI f))
  have hV2 : NV (sI (tI (tR (nA S b0 11 8) (am 4) (cn q 1) (some b0)) (am 5) (cn q 1) 0) 44 (am 0) ((nI (cn q 1)) + 1)) (amU am (cn q 1) b0) (nw0 q r) := NV.new hV0 (by omega) hI9 (hI_sI1.trans (nI_1 _)) (fun t ht => (n9 _).trans ((o (am (20 + t)) (by rw [hA.kh t ht]; decide)).2.1.trans (fN _))) a9 (fun t ht => (ay _ (ne_kinds (hA.kh t ht) hA.k5 (by decide)) (by rw [hA.kh t ht]; decide)).trans (w3 _ (ne_kinds (hA.kh t ht) hA.k3 (by decide)))) (fun t ht => by rw [a5, if_neg (by omega)]; exact congrFun (w3 _ (hA.apt (by decide) (by decide) (by decide))) t) (by rw [a5, if_pos rfl]) (fun t ht k hk => by rw [a3]; exact w1 _ (fun k2 hk2 => by omega)) (fun k hk => by rw [a3]; exact w2 k hk) ((n9 _).trans hN_nA1)
  have hSG2 : SGB (nw0 q r) := nw0_SG hSG
  have key := c_X5_notes l (sI (tI (tR (nA S b0 11 8) (am 4) (cn q 1) (some b0)) (am 5) (cn q 1) 0) 44 (am 0) ((nI (cn q 1)) + 1)) (amU am (cn q 1) b0) (nw0 q r) hA2 hV2 hSG2 (cn q 1) 110 110 rfl (by decide) (by show cn q 1 < cn q 1 + 1; omega) (by rw [nw0_cnt]; omega)
  have e00 : amU am (cn q 1) b0 0 = am 0 := amUl (by omega)
  rw [e00] at key
  have hk6 : hK (sI (tI (tR (nA S b0 11 8) (am 4) (cn q 1) (some b0)) (am 5) (cn q 1) 0) 44 (am 0) ((nI (cn q 1)) + 1)) (am 0) = 6 := by rw [← e00]; exact hA2.k0
  refine v_callVv C (st := []) [.int (nI (cn q 1)), .int 110] key ml_RX5_162 mi_yX5_notes hk6 (by decide) (by decide +kernel) rfl (Nat.le_of_ble_eq_true rfl) (Nat.le_of_ble_eq_true rfl) (Nat.le_of_ble_eq_true rfl) (by show 0 + 1 + 1 ≤ 2; omega) (by show 0 + 8 + 660 ≤ 668; omega) dX5_begins_156 (fun u h => ?_) _ rfl
  obtain ⟨am2, e2, gA, gV, gF⟩ := h
  rw [nw0_nt] at gV
  have hp1 : hI u 61 (am 0) = hI S0 61 (am 0) := (gF.1 61 (am 0) (by rw [hk6]; decide)).trans (hI9 61 (by decide))
  have hp2 : aI u (am 10) = aI S0 (am 10) := by have h9 := gF.2.2 10 (by decide) (by decide); rw [show amU am (cn q 1) b0 10 = am 10 from amUl (by omega)] at h9; exact h9.trans (a9 10 (by decide) (by decide) (by decide))
  exact V.sub [0, 1] rfl (kk u am2 (fun i hi => (e2 i (by omega)).trans (amUl (by omega))) gA gV ⟨hp1, hp2⟩)
