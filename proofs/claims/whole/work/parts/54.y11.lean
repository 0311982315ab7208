theorem NA.old {S T : HS} {am : AM} {n : Nat} (h : NA S am n) (o : Old S T) : NA T am n :=
  ⟨(o _ (by rw [h.k0]; decide)).1.trans (h.k0),
    (o _ (by rw [h.k1]; decide)).1.trans (h.k1),
    (o _ (by rw [h.k2]; decide)).1.trans (h.k2),
    (o _ (by rw [h.k3]; decide)).1.trans (h.k3),
    (o _ (by rw [h.k5]; decide)).1.trans (h.k5),
    (o _ (by rw [h.k6]; decide)).1.trans (h.k6),
    (o _ (by rw [h.k7]; decide)).1.trans (h.k7),
    (o _ (by rw [h.k8]; decide)).1.trans (h.k8),
    (o _ (by rw [h.k9]; decide)).1.trans (h.k9),
    (o _ (by rw [h.k10]; decide)).1.trans (h.k10),
    (o _ (by rw [h.k11]; decide)).1.trans (h.k11),
    (o _ (by rw [h.k4]; decide)).1.trans (h.k4),
    fun t ht => (o _ (by rw [h.kh t ht]; decide)).1.trans (h.kh t ht),
    ((o _ (by rw [h.k0]; decide)).2.2.1 41).trans h.r41,
    ((o _ (by rw [h.k0]; decide)).2.2.1 42).trans h.r42,
    ((o _ (by rw [h.k0]; decide)).2.2.1 43).trans h.r43,
    ((o _ (by rw [h.k0]; decide)).2.2.1 45).trans h.r45,
    ((o _ (by rw [h.k0]; decide)).2.2.1 46).trans h.r46,
    ((o _ (by rw [h.k0]; decide)).2.2.1 47).trans h.r47,
    ((o _ (by rw [h.k0]; decide)).2.2.1 48).trans h.r48,
    ((o _ (by rw [h.k0]; decide)).2.2.1 49).trans h.r49,
    ((o _ (by rw [h.k0]; decide)).2.2.1 58).trans h.r58,
    ((o _ (by rw [h.k0]; decide)).2.2.1 59).trans h.r59,
    ((o _ (by rw [h.k0]; decide)).2.2.1 62).trans h.r62,
    (o _ (by rw [h.k1]; decide)).2.1.trans (h.n1),
    (o _ (by rw [h.k2]; decide)).2.1.trans (h.n2),
    (o _ (by rw [h.k3]; decide)).2.1.trans (h.n3),
    (o _ (by rw [h.k4]; decide)).2.1.trans (h.n4),
    (o _ (by rw [h.k5]; decide)).2.1.trans (h.n5),
    (o _ (by rw [h.k6]; decide)).2.1.trans (h.n6),
    (o _ (by rw [h.k7]; decide)).2.1.trans (h.n7),
    (o _ (by rw [h.k8]; decide)).2.1.trans (h.n8),
    (o _ (by rw [h.k9]; decide)).2.1.trans (h.n9),
    (o _ (by rw [h.k10]; decide)).2.1.trans (h.n10),
    (o _ (by rw [h.k11]; decide)).2.1.trans (h.n11),
    fun t ht => (congrFun (o _ (by rw [h.k4]; decide)).2.2.2.2.2.2.1 t).trans (h.a4 t ht),
    h.jj,
    h.jh,
    h.hn⟩
theorem NA.nz {S : HS} {am : AM} {n : Nat} (h : NA S am n) : ∀ i, i < 12 → hK S (am i) ≠ 0 := fun i hi => by
  rcases (show i = 0 ∨ i = 1 ∨ i = 2 ∨ i = 3 ∨ i = 4 ∨ i = 5 ∨ i = 6 ∨ i = 7 ∨ i = 8 ∨ i = 9 ∨ i = 10 ∨ i = 11 by omega) with rfl | rfl | rfl | rfl | rfl | rfl | rfl | rfl | rfl | rfl | rfl | rfl
  · rw [h.k0]; decide
  · rw [h.k1]; decide
  · rw [h.k2]; decide
  · rw [h.k3]; decide
  · rw [h.k4]; decide
  · rw [h.k5]; decide
  · rw [h.k6]; decide
  · rw [h.k7]; decide
  · rw [h.k8]; decide
  · rw [h.k9]; decide
  · rw [h.k10]; decide
  · rw [h.k11]; decide
theorem NV.old {S T : HS} {am : AM} {q : AS} (h : NA S am (cn q 1)) (g : NV S am q) (o : Old S T) : NV T am q := by
  have r : ∀ f, hI T f (am 0) = hI S f (am 0) := (o _ (h.nz 0 (by decide))).2.2.2.1
  have a : ∀ i, i < 12 → aI T (am i) = aI S (am i) := fun i hi => (o _ (h.nz i hi)).2.2.2.2.2.1
  have hr : ∀ t, t < cn q 1 → aI T (am (20 + t)) = aI S (am (20 + t)) ∧ hN T (am (20 + t)) = hN S (am (20 + t)) := fun t ht => ⟨(o _ (by rw [h.kh t ht]; decide)).2.2.2.2.2.1, (o _ (by rw [h.kh t ht]; decide)).2.1⟩
  exact ⟨(r _).trans g.v44, (r _).trans g.v50, (r _).trans g.v51, (r _).trans g.v52, (r _).trans g.v53, (r _).trans g.v54, (r _).trans g.v55, (r _).trans g.v56, (r _).trans g.v57,
    fun i hi => (congrFun (a 2 (by decide)) _).trans (g.pm i hi), fun i hi c k hk => (congrFun (a 1 (by decide)) _).trans (g.p1 i hi c k hk), fun i hi c k hk => (congrFun (a 1 (by decide)) _).trans (g.p2 i hi c k hk), fun t ht k hk => (congrFun (a 3 (by decide)) _).trans (g.m t ht k hk), fun t ht => (congrFun (a 5 (by decide)) _).trans (g.hm t ht), fun t ht j hj => (congrFun (hr t ht).1 _).trans (g.hr t ht j hj), fun t ht => by rw [(hr t ht).2]; exact g.hl t ht,
    fun i hi => (congrFun (a 6 (by decide)) _).trans (g.t6 i hi), fun i hi => (congrFun (a 7 (by decide)) _).trans (g.t7 i hi), fun i hi => (congrFun (a 8 (by decide)) _).trans (g.t8 i hi)⟩
def amU (am : AM) (t b0 : Nat) : AM := fun i => if i = 20 + t then b0 else am i
theorem amUt {am : AM} {t b0 : Nat} : amU am t b0 (20 + t) = b0 := if_pos rfl
theorem amUl {am : AM} {t b0 i : Nat} (h : i ≠ 20 + t) : amU am t b0 i = am i := if_neg h
theorem NA.row {T : HS} {am : AM} {n t b0 : Nat} (h : NA T am n) (hb : hK T b0 = 11) (hf : ∀ i, i < n → am (20 + i) ≠ b0) : NA (tR T (am 4) t (some b0)) (amU am t b0) n :=
  ⟨by rw [amUl (by omega)]; exact h.k0,
    by rw [amUl (by omega)]; exact h.k1,
    by rw [amUl (by omega)]; exact h.k2,
    by rw [amUl (by omega)]; exact h.k3,
    by rw [amUl (by omega)]; exact h.k5,
    by rw [amUl (by omega)]; exact h.k6,
    by rw [amUl (by omega)]; exact h.k7,
    by rw [amUl (by omega)]; exact h.k8,
    by rw [amUl (by omega)]; exact h.k9,
    by rw [amUl (by omega)]; exact h.k10,
    by rw [amUl (by omega)]; exact h.k11,
    by rw [amUl (by omega)]; exact h.k4,
    fun i hi => by
      by_cases e : i = t
      · rw [e, amUt]; exact hb
      · rw [amUl (by omega)]; exact h.kh i hi,
    by rw [amUl (by omega), amUl (by omega)]; exact h.r41,
    by rw [amUl (by omega), amUl (by omega)]; exact h.r42,
    by rw [amUl (by omega), amUl (by omega)]; exact h.r43,
    by rw [amUl (by omega), amUl (by omega)]; exact h.r45,
    by rw [amUl (by omega), amUl (by omega)]; exact h.r46,
    by rw [amUl (by omega), amUl (by omega)]; exact h.r47,
    by rw [amUl (by omega), amUl (by omega)]; exact h.r48,
    by rw [amUl (by omega), amUl (by omega)]; exact h.r49,
    by rw [amUl (by omega), amUl (by omega)]; exact h.r58,
    by rw [amUl (by omega), amUl (by omega)]; exact h.r59,
    by rw [amUl (by omega), amUl (by omega)]; exact h.r62,
    by rw [amUl (by omega)]; exact h.n1,
    by rw [amUl (by omega)]; exact h.n2,
    by rw [amUl (by omega)]; exact h.n3,
    by rw [amUl (by omega)]; exact h.n4,
    by rw [amUl (by omega)]; exact h.n5,
    by rw [amUl (by omega)]; exact h.n6,
    by rw [amUl (by omega)]; exact h.n7,
    by rw [amUl (by omega)]; exact h.n8,
    by rw [amUl (by omega)]; exact h.n9,
    by rw [amUl (by omega)]; exact h.n10,
    by rw [amUl (by omega)]; exact h.n11,
    fun i hi => by
      rw [amUl (by omega)]
      show aR (tR T (am 4) t (some b0)) (am 4) i = _
      rw [aR_tR1]
      by_cases e : i = t
      · rw [if_pos e, e, amUt]
      · rw [if_neg e, amUl (by omega)]; exact h.a4 i hi,
    fun i hi j hj e => by
      rw [amUl (by omega), amUl (by omega)] at e
      exact h.jj i hi j hj e,
    fun i hi j hj e => by
      by_cases ei : i = t <;> by_cases ej : j = t
      · omega
      · rw [ei, amUt, amUl (by omega)] at e; exact absurd e.symm (hf j hj)
      · rw [ej, amUt, amUl (by omega)] at e; exact absurd e (hf i hi)
      · rw [amUl (by omega), amUl (by omega)] at e; exact h.jh i hi j hj e,
    h.hn⟩
theorem NV.row {T : HS} {am : AM} {q : AS} {t b0 : Nat} (g : NV T am q) (hr : ∀ j, j < cn q (100 + t) → aI T b0 j = iO (zz q 4 t j)) (hl : cn q (100 + t) ≤ hN T b0 ∧ 8 ≤ hN T b0 ∧ hN T b0 ≤ 1024) : NV (tR T (am 4) t (some b0)) (amU am t b0) q := by
  have u : ∀ i, i < 20 → amU am t b0 i = am i := fun i hi => amUl (by omega)
  refine ⟨by rw [u 0 (by decide)]; exact g.v44, by rw [u 0 (by decide)]; exact g.v50, by rw [u 0 (by decide)]; exact g.v51, by rw [u 0 (by decide)]; exact g.v52, by rw [u 0 (by decide)]; exact g.v53, by rw [u 0 (by decide)]; exact g.v54, by rw [u 0 (by decide)]; exact g.v55, by rw [u 0 (by decide)]; exact g.v56, by rw [u 0 (by decide)]; exact g.v57,
    by rw [u 2 (by decide)]; exact g.pm, by rw [u 1 (by decide)]; exact g.p1, by rw [u 1 (by decide)]; exact g.p2, by rw [u 3 (by decide)]; exact g.m, by rw [u 5 (by decide)]; exact g.hm, fun i hi j hj => ?_, fun i hi => ?_, by rw [u 6 (by decide)]; exact g.t6, by rw [u 7 (by decide)]; exact g.t7, by rw [u 8 (by decide)]; exact g.t8⟩
  · by_cases e : i = t
    · subst e; rw [amUt]; exact hr j hj
    · rw [amUl (by omega)]; exact g.hr i hi j hj
  · by_cases e : i = t
    · subst e; rw [amUt]; exact hl
    · rw [amUl (by omega)]; exact g.hl i hi
/-- all but one row of ints stays -/
def FrB (S T : HS) (b : Nat) : Prop := (∀ a, hK T a = hK S a) ∧ (∀ f a, hR T f a = hR S f a) ∧ (∀ a, hN T a = hN S a) ∧ (∀ f a, hI T f a = hI S f a) ∧ (∀ a, aR T a = aR S a) ∧ (∀ a, a ≠ b → aI T a = aI S a) ∧ (∀ f a, hJ T f a = hJ S f a) ∧ (∀ a, aJ T a = aJ S a)
theorem FrB.rf {S : HS} {b : Nat} : FrB S S b := ⟨fun _ => rfl, fun _ _ => rfl, fun _ => rfl, fun _ _ => rfl, fun _ => rfl, fun _ _ => rfl, fun _ _ => rfl, fun _ => rfl⟩
theorem FrB.A {S T : HS} {b j : Nat} {v : Int32} (h : FrB S T b) : FrB S (tI T b j v) b := ⟨h.1, h.2.1, h.2.2.1, h.2.2.2.1, h.2.2.2.2.1, fun a ha => (aI_tI2 ha).trans (h.2.2.2.2.2.1 a ha), h.2.2.2.2.2.2.1, h.2.2.2.2.2.2.2⟩
theorem FrB.old {S T : HS} {b n : Nat} (hb : hK S b = 0) (h : FrB (nA S b 11 n) T b) : Old S T := fun a ha => by
  have hne : a ≠ b := fun z => ha (by rw [z]; exact hb)
  obtain ⟨o1, o2, o3, o4, o5, o6, o7, o8⟩ := Old.newA (kd := 11) (n := n) hb a ha
  exact ⟨(h.1 a).trans o1, (h.2.2.1 a).trans o2, fun f => (h.2.1 f a).trans (o3 f), fun f => (h.2.2.2.1 f a).trans (o4 f), fun f => (h.2.2.2.2.2.2.1 f a).trans (o5 f), (h.2.2.2.2.2.1 a hne).trans o6, (h.2.2.2.2.1 a).trans o7, (h.2.2.2.2.2.2.2 a).trans o8⟩
