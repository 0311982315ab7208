/-- what a history's new sign leaves as it was -/
def FrH (S T : HS) (am : AM) : Prop := (∀ f a, hK S a ≠ 0 → hI T f a = hI S f a) ∧ (∀ f a, hK S a ≠ 0 → hJ T f a = hJ S f a) ∧ (∀ i, i < 12 → i ≠ 5 → aI T (am i) = aI S (am i))
theorem FrH.rf {S : HS} {am : AM} : FrH S S am := ⟨fun _ _ _ => rfl, fun _ _ _ => rfl, fun _ _ _ => rfl⟩
theorem nt_NV {S : HS} {am : AM} {q : AS} {t : Nat} {x : Int} {v : Int32} (hA : NA S am (cn q 1)) (hV : NV S am q) (ht : t < cn q 1) (hl : cn q (100 + t) < hN S (am (20 + t))) (hx : v = iO x) : NV (tI (tI S (am (20 + t)) (cn q (100 + t)) v) (am 5) t (nI (cn q (100 + t)) + 1)) am (ntA q t x) := by
  have c1 : ∀ k, k ≠ 100 + t → cn (ntA q t x) k = cn q k := fun k hk => QT.nt.1 k hk
  have z1 : ∀ i, i ≠ 4 → ∀ j' k, zz (ntA q t x) i j' k = zz q i j' k := fun i hi j' k => by rw [zz_nt, if_neg (fun z => hi z.1)]
  have n5 : ∀ i, i < 12 → i ≠ 5 → am i ≠ am 5 := fun i hi h5 z => h5 (hA.jj i hi 5 (by omega) z)
  have nh : ∀ i, i < 12 → i ≠ 4 → am i ≠ am (20 + t) := fun i hi h4 => by
    have hk := hA.kh t ht
    have : hK S (am i) ≠ 11 := by
      rcases (show i = 0 ∨ i = 1 ∨ i = 2 ∨ i = 3 ∨ i = 5 ∨ i = 6 ∨ i = 7 ∨ i = 8 ∨ i = 9 ∨ i = 10 ∨ i = 11 by omega) with rfl | rfl | rfl | rfl | rfl | rfl | rfl | rfl | rfl | rfl | rfl
      · rw [hA.k0]; decide
      · rw [hA.k1]; decide
      · rw [hA.k2]; decide
      · rw [hA.k3]; decide
      · rw [hA.k5]; decide
      · rw [hA.k6]; decide
      · rw [hA.k7]; decide
      · rw [hA.k8]; decide
      · rw [hA.k9]; decide
      · rw [hA.k10]; decide
      · rw [hA.k11]; decide
    exact fun z => this (by rw [z]; exact hk)
  have a : ∀ i, i < 12 → i ≠ 5 → i ≠ 4 → aI (tI (tI S (am (20 + t)) (cn q (100 + t)) v) (am 5) t (nI (cn q (100 + t)) + 1)) (am i) = aI S (am i) := fun i hi h5 h4 => (aI_tI2 (n5 i hi h5)).trans (aI_tI2 (nh i hi h4))
  have n5h : ∀ t', t' < cn q 1 → am (20 + t') ≠ am 5 := fun t' ht' => ne_kinds (hA.kh t' ht') hA.k5 (by decide)
  refine ⟨by rw [c1 1 (by omega)]; exact hV.v44, by rw [c1 0 (by omega)]; exact hV.v50, by rw [z1 0 (by decide)]; exact hV.v51, by rw [z1 0 (by decide)]; exact hV.v52, by rw [z1 0 (by decide)]; exact hV.v53, by rw [z1 0 (by decide)]; exact hV.v54, by rw [z1 0 (by decide)]; exact hV.v55, by rw [c1 3 (by omega)]; exact hV.v56, by rw [c1 2 (by omega)]; exact hV.v57,
    fun i hi => by rw [a 2 (by decide) (by decide) (by decide), c1 _ (by omega)]; exact hV.pm i hi, fun i hi h k hk => ?_, fun i hi h k hk => ?_, fun t' ht' k hk => ?_, fun t' ht' => ?_, fun t' ht' j hj => ?_, fun t' ht' => ?_, fun r hr => by rw [a 6 (by decide) (by decide) (by decide), z1 2 (by decide)]; exact hV.t6 r hr, fun r hr => by rw [a 7 (by decide) (by decide) (by decide), z1 2 (by decide)]; exact hV.t7 r hr, fun r hr => by rw [a 8 (by decide) (by decide) (by decide), z1 2 (by decide)]; exact hV.t8 r hr⟩
  · rw [c1 _ (by omega)] at h
    rw [a 1 (by decide) (by decide) (by decide), z1 1 (by decide)]; exact hV.p1 i hi h k hk
  · rw [c1 _ (by omega)] at h
    rw [a 1 (by decide) (by decide) (by decide), z1 1 (by decide)]; exact hV.p2 i hi h k hk
  all_goals rw [c1 1 (by omega)] at ht'
  · rw [a 3 (by decide) (by decide) (by decide), z1 3 (by decide)]; exact hV.m t' ht' k hk
  · rw [aI_tI1]
    by_cases e : t' = t
    · rw [if_pos e, e, cn_nt1, nI_1]
    · rw [if_neg e, c1 _ (by omega), aI_tI2 (nh 5 (by decide) (by decide))]; exact hV.hm t' ht'
  · rw [aI_tI2 (n5h t' ht')]
    by_cases e : t' = t
    · subst e
      rw [cn_nt1] at hj
      rw [aI_tI1, zz_nt]
      by_cases e2 : j = cn q (100 + t')
      · rw [if_pos e2, if_pos ⟨rfl, rfl, e2⟩, hx]
      · rw [if_neg e2, if_neg (fun z => e2 z.2.2)]; exact hV.hr t' ht' j (by omega)
    · rw [c1 _ (by omega)] at hj
      rw [aI_tI2 (fun z => e (hA.jh t' ht' t ht z)), zz_nt, if_neg (fun z => e z.2.1)]; exact hV.hr t' ht' j hj
  · show cn (ntA q t x) (100 + t') ≤ hN S (am (20 + t')) ∧ 8 ≤ hN S (am (20 + t')) ∧ hN S (am (20 + t')) ≤ 1024
    have h9 := hV.hl t' ht'
    by_cases e : t' = t
    · subst e
      rw [cn_nt1]
      omega
    · rw [c1 _ (by omega)]; exact h9
theorem nt_FrH {S : HS} {am : AM} {q : AS} {t : Nat} {v w : Int32} {j : Nat} (hA : NA S am (cn q 1)) (ht : t < cn q 1) : FrH S (tI (tI S (am (20 + t)) j v) (am 5) t w) am := ⟨fun _ _ _ => rfl, fun _ _ _ => rfl, fun i hi h5 => by
  have h9 : am i ≠ am 5 := fun z => h5 (hA.jj i hi 5 (by omega) z)
  have hk := hA.kh t ht
  have : hK S (am i) ≠ 11 := by
    rcases (show i = 0 ∨ i = 1 ∨ i = 2 ∨ i = 3 ∨ i = 4 ∨ i = 6 ∨ i = 7 ∨ i = 8 ∨ i = 9 ∨ i = 10 ∨ i = 11 by omega) with rfl | rfl | rfl | rfl | rfl | rfl | rfl | rfl | rfl | rfl | rfl
    · rw [hA.k0]; decide
    · rw [hA.k1]; decide
    · rw [hA.k2]; decide
    · rw [hA.k3]; decide
    · rw [hA.k4]; decide
    · rw [hA.k6]; decide
    · rw [hA.k7]; decide
    · rw [hA.k8]; decide
    · rw [hA.k9]; decide
    · rw [hA.k10]; decide
    · rw [hA.k11]; decide
  exact (aI_tI2 h9).trans (aI_tI2 (fun z => this (by rw [z]; exact hk)))⟩
set_option maxRecDepth 100000 in
set_option maxHeartbeats 4000000 in
theorem sg_X5_notes {l : Launch} {pP : Program} {eE : Env} {sS : State} {mM : MethodId} {aA : Array Value} {bB : List Frame} {tT : Method} {cC : Code} {G : GT} {A : Nat → Prop} {Q : State → Prop} (S : HS) (am : AM) (q : AS) (hA : NA S am (cn q 1)) (hV : NV S am q) (t : Nat) (x : Int) (v : Int32) (hx : v = iO x) (hxc : vp_nar .char v = v) (ht : t < cn q 1) (hl : cn q (100 + t) < hN S (am (20 + t))) (k0 n0 : Nat)  (C : Cx pP l eE (rmD 4 1 660) sS mM aA bB tT cC cX5_notes 5 RX5 G A) (kk : V pP l eE (rmD 4 1 660) sS mM aA bB tT cC 5 G A (tI (tI S (am (20 + t)) (cn q (100 + t)) v) (am 5) t (nI (cn q (100 + t)) + 1)) k0 n0 Q 91 [(0, .ref (am 0)), (1, .int (nI t)), (2, .int v)] []) : V pP l eE (rmD 4 1 660) sS mM aA bB tT cC 5 G A S k0 n0 Q 67 [(0, .ref (am 0)), (1, .int (nI t)), (2, .int v)] [] := by
  have h60 := hA.hn
  have h24 := (hV.hl t ht).2.2
  refine v_aload_n C 0 rfl rfl dX5_notes_67 ?_
  refine v_getR C (am 4) fl_RX5_21 hA.k0 hA.r45 dX5_notes_68 ?_
  refine v_iload_n C 1 rfl rfl dX5_notes_71 ?_
  refine v_aald C (some (am (20 + t))) (klt hA.k4 (by decide)) (kgt hA.k4 (by decide)) (vpi hA.n4 (vp_in_nI (by have := hA.hn; omega) (by decide))) ((congrArg _ (nI_clamp (by have := hA.hn; omega))).trans (hA.a4 t ht)) dX5_notes_72 ?_
  refine v_aload_n C 0 rfl rfl dX5_notes_73 ?_
  refine v_getR C (am 5) fl_RX5_25 hA.k0 hA.r46 dX5_notes_74 ?_
  refine v_iload_n C 1 rfl rfl dX5_notes_77 ?_
  refine v_iald C (nI (cn q (100 + t))) hA.k5 (vpi hA.n5 (vp_in_nI (by have := hA.hn; omega) (by decide))) ((congrArg _ (nI_clamp (by have := hA.hn; omega))).trans (hV.hm t ht)) dX5_notes_78 ?_
  refine v_iload_n C 2 rfl rfl dX5_notes_79 ?_
  refine v_castj C (cn q (100 + t)) (nI_clamp (by omega)) (hA.kh t ht) (vp_in_nI hl (by omega)) hxc dX5_notes_80 ?_
  refine v_aload_n C 0 rfl rfl dX5_notes_81 ?_
  refine v_getR C (am 5) fl_RX5_25 hA.k0 hA.r46 dX5_notes_82 ?_
  refine v_iload_n C 1 rfl rfl dX5_notes_85 ?_
  refine v_dup2 C rfl rfl dX5_notes_86 ?_
  refine v_iald C (nI (cn q (100 + t))) hA.k5 (vpi hA.n5 (vp_in_nI (by have := hA.hn; omega) (by decide))) ((congrArg _ (nI_clamp (by have := hA.hn; omega))).trans ((congrFun (aI_tI2 (ne_kinds hA.k5 (hA.kh t ht) (by decide))) t).trans (hV.hm t ht))) dX5_notes_87 ?_
  refine v_iconst C 1 (by decide) dX5_notes_88 ?_
  refine v_iadd C dX5_notes_89 ?_
  refine v_iastj C t (nI_clamp (by omega)) hA.k5 (vpi hA.n5 (vp_in_nI (by omega) (by decide))) dX5_notes_90 ?_
  exact kk
