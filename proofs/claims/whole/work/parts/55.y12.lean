set_option maxRecDepth 100000 in
set_option maxHeartbeats 4000000 in
theorem lp_X5_notes {l : Launch} {pP : Program} {eE : Env} {sS : State} {mM : MethodId} {aA : Array Value} {bB : List Frame} {tT : Method} {cC : Code} {G : GT} {A : Nat → Prop} {Q : State → Prop}  (S : HS) (am : AM) (q : AS) (hA : NA S am (cn q 1)) (hV : NV S am q) (hSG : SGB q) (t : Nat) (v : Int32) (ht : t < cn q 1) (hc : cn q (100 + t) = hN S (am (20 + t))) (hc5 : cn q (100 + t) ≤ 330) (b0 : Nat) (hf : hK S b0 = 0) (k0 n0 : Nat)  (C : Cx pP l eE (rmD 4 1 660) sS mM aA bB tT cC cX5_notes 5 RX5 G A) (kk : ∀ T : HS, FrB (nA S b0 11 (2 * (cn q (100 + t)))) T b0 ∧ (∀ z, z < (cn q (100 + t)) → aI T b0 z = aI S (am (20 + t)) z) → V pP l eE (rmD 4 1 660) sS mM aA bB tT cC 5 G A T k0 n0 Q 60 [(0, .ref (am 0)), (1, .int (nI t)), (2, .int v), (3, .ref b0), (4, .int (nI (cn q (100 + t))))] []) : ∀ (N : Nat) (k : Nat) (T : HS), (hN9 : (cn q (100 + t)) + 1 ≤ k + N) → (hi : k ≤ (cn q (100 + t))) → (hinv : FrB (nA S b0 11 (2 * (cn q (100 + t)))) T b0 ∧ (∀ z, z < k → aI T b0 z = aI S (am (20 + t)) z)) → V pP l eE (rmD 4 1 660) sS mM aA bB tT cC 5 G A T k0 n0 Q 30 [(0, .ref (am 0)), (1, .int (nI t)), (2, .int v), (3, .ref b0), (4, .int (nI k))] [] := by
  intro N
  induction N with
  | zero =>
    intro k T hN9 hi hinv
    exact absurd hN9 (by omega)
  | succ N ih =>
    intro k T hN9 hi hinv
    obtain ⟨hF, hz⟩ := hinv
    have o := hF.old hf
    have hAT := hA.old o
    have hVT := hV.old hA o
    have h60 := hA.hn
    have hb1 : hK T b0 = 11 := (hF.1 b0).trans (hK_nA1 (n := 2 * (cn q (100 + t))))
    have hn1 : hN T b0 = 2 * (cn q (100 + t)) := (hF.2.2.1 b0).trans hN_nA1
    have hne : am (20 + t) ≠ b0 := ne_fresh (hA.kh t ht) (by decide) hf
    have hrow : aI T (am (20 + t)) = aI S (am (20 + t)) := (o _ (by rw [hA.kh t ht]; decide)).2.2.2.2.2.1
    have hlen : hN T (am (20 + t)) = hN S (am (20 + t)) := (o _ (by rw [hA.kh t ht]; decide)).2.1
    refine v_iload C 4 rfl dX5_notes_30 ?_
    refine v_aload_n C 0 rfl rfl dX5_notes_32 ?_
    refine v_getR C (am 5) fl_RX5_25 hAT.k0 hAT.r46 dX5_notes_33 ?_
    refine v_iload_n C 1 rfl rfl dX5_notes_36 ?_
    refine v_iald C (nI (cn q (100 + t))) hAT.k5 (vpi hAT.n5 (vp_in_nI (by omega) (by decide))) ((congrArg _ (nI_clamp (by omega))).trans (hVT.hm t ht)) dX5_notes_37 ?_
    refine v_icmp_ge C 60 (by decide) dX5_notes_38 (fun c38 => ?_) (fun c38 => ?_)
    · obtain rfl : k = (cn q (100 + t)) := by have := nge c38 (by omega); omega
      exact V.sub [0, 1, 2, 3, 4] rfl (kk T ⟨hF, hz⟩)
    · have hlt : k < (cn q (100 + t)) := nlt c38 (by omega)
      refine v_aload_n C 3 rfl rfl dX5_notes_41 ?_
      refine v_iload C 4 rfl dX5_notes_42 ?_
      refine v_aload_n C 0 rfl rfl dX5_notes_44 ?_
      refine v_getR C (am 4) fl_RX5_21 hAT.k0 hAT.r45 dX5_notes_45 ?_
      refine v_iload_n C 1 rfl rfl dX5_notes_48 ?_
      refine v_aald C (some (am (20 + t))) (klt hAT.k4 (by decide)) (kgt hAT.k4 (by decide)) (vpi hAT.n4 (vp_in_nI (by omega) (by decide))) ((congrArg _ (nI_clamp (by omega))).trans (hAT.a4 t ht)) dX5_notes_49 ?_
      refine v_iload C 4 rfl dX5_notes_50 ?_
      refine v_cald C (aI S (am (20 + t)) k) (hAT.kh t ht) (vpi (hlen.trans hc.symm) (vp_in_nI hlt (by omega))) ((congrArg _ (nI_clamp (by omega))).trans (congrFun hrow k)) dX5_notes_52 ?_
      refine v_castj C k (nI_clamp (by omega)) hb1 (vpi hn1 (vp_in_nI (by omega) (by omega))) (by rw [hV.hr t ht k hlt]; exact nar_ch (hSG t ht k hlt)) dX5_notes_53 ?_
      refine v_iinc C (nI (k + 1)) 4 [(4, .int (nI (k + 1))), (0, .ref (am 0)), (1, .int (nI t)), (2, .int v), (3, .ref b0)] rfl (by rw [← nI_1]; rfl) (by decide) rfl dX5_notes_54 ?_
      refine v_goto C 30 (by decide) dX5_notes_57 ?_
      exact V.sub [1, 2, 3, 4, 0] rfl (ih (k + 1) (tI T b0 k (aI S (am (20 + t)) k)) (by omega) (by omega) ⟨hF.A, fun z hz2 => by rw [aI_tI1]; by_cases e : z = k; rw [if_pos e, e]; rw [if_neg e]; exact hz z (by omega)⟩)
set_option maxRecDepth 100000 in
set_option maxHeartbeats 4000000 in
theorem c_X5_notes (l : Launch) (S : HS) (am : AM) (q : AS) (hA : NA S am (cn q 1)) (hV : NV S am q) (hSG : SGB q) (t : Nat) (x : Int) (v : Int32) (hx : v = iO x) (hxc : vp_nar .char v = v) (ht : t < cn q 1) (hc5 : cn q (100 + t) ≤ 330) : cM l yX5_notes cX5_notes 5 (Option.none : Option Jvm.ClassFile.FieldType) 4 [.ref (am 0), .int (nI t), .int v] S (pV fun u => ∃ am2 : AM, (∀ i, i ≠ 20 + t → am2 i = am i) ∧ NA u am2 (cn q 1) ∧ NV u am2 (ntA q t x) ∧ FrH S u am) 1 660 := by
  refine cM_intro (by decide +kernel) cd_X5_notes (Nat.le_of_ble_eq_true rfl) ?_
  intro pP eE sS mM aA bB tT cC G A C hRT hin
  refine V.lvs (lv2 := [(0, .ref (am 0)), (1, .int (nI t)), (2, .int v)]) rfl ?_
  have h60 := hA.hn
  have h24 := (hV.hl t ht).2.2
  have h8 := (hV.hl t ht).2.1
  refine v_aload_n C 0 rfl rfl dX5_notes_0 ?_
  refine v_getR C (am 5) fl_RX5_25 hA.k0 hA.r46 dX5_notes_1 ?_
  refine v_iload_n C 1 rfl rfl dX5_notes_4 ?_
  refine v_iald C (nI (cn q (100 + t))) hA.k5 (vpi hA.n5 (vp_in_nI (by have := hA.hn; omega) (by decide))) ((congrArg _ (nI_clamp (by have := hA.hn; omega))).trans (hV.hm t ht)) dX5_notes_5 ?_
  refine v_aload_n C 0 rfl rfl dX5_notes_6 ?_
  refine v_getR C (am 4) fl_RX5_21 hA.k0 hA.r45 dX5_notes_7 ?_
  refine v_iload_n C 1 rfl rfl dX5_notes_10 ?_
  refine v_aald C (some (am (20 + t))) (klt hA.k4 (by decide)) (kgt hA.k4 (by decide)) (vpi hA.n4 (vp_in_nI (by have := hA.hn; omega) (by decide))) ((congrArg _ (nI_clamp (by have := hA.hn; omega))).trans (hA.a4 t ht)) dX5_notes_11 ?_
  refine v_alen C (Int32.ofNat (hN S (am (20 + t)))) (kle (hA.kh t ht) (by decide)) (kge (hA.kh t ht) (by decide)) rfl dX5_notes_12 ?_
  refine v_icmp_ne C 67 (by decide) dX5_notes_13 (fun c13 => ?_) (fun c13 => ?_)
  · have hl : (cn q (100 + t)) < hN S (am (20 + t)) := by have h1 := (hV.hl t ht).1; have h2 : ¬ (cn q (100 + t)) = hN S (am (20 + t)) := fun z => c13 (by rw [z]; rfl); omega
    refine V.sub [0, 1, 2] rfl (sg_X5_notes S am q hA hV t x v hx hxc ht hl 0 0 C ?_)
    exact v_vret C hRT (by show 0 ≤ 1; omega) (by show 0 ≤ 660; omega) dX5_notes_91 ⟨rfl, am, fun _ _ => rfl, hA.tI.tI, nt_NV hA hV ht hl hx, nt_FrH hA ht⟩
  · refine v_iconst C 2 (by decide) dX5_notes_16 ?_
    refine v_aload_n C 0 rfl rfl dX5_notes_17 ?_
    refine v_getR C (am 5) fl_RX5_25 hA.k0 hA.r46 dX5_notes_18 ?_
    refine v_iload_n C 1 rfl rfl dX5_notes_21 ?_
    refine v_iald C (nI (cn q (100 + t))) hA.k5 (vpi hA.n5 (vp_in_nI (by have := hA.hn; omega) (by decide))) ((congrArg _ (nI_clamp (by have := hA.hn; omega))).trans (hV.hm t ht)) dX5_notes_22 ?_
    refine v_imul C dX5_notes_23 ?_
    have hc : cn q (100 + t) = hN S (am (20 + t)) := nI_inj c13 (by omega) (by omega)
    rw [show (2 : Int32) * nI (cn q (100 + t)) = nI (2 * (cn q (100 + t))) from by rw [nI_iO, nI_iO, show (2 : Int32) = iO 2 from rfl, iO_mul]; congr 1]
    refine v_newa C (2 * (cn q (100 + t))) (Or.inr (Or.inl ⟨rfl, rfl⟩)) ac_char (nI_pos (by omega)) (nI_clamp (by omega)) (by omega) (by show 0 + 1 ≤ 1; omega) (by show 0 + 2 * (cn q (100 + t)) ≤ 660; omega) dX5_notes_24 (fun b0 hf => ?_)
    refine v_astore_n C [(3, .ref b0), (0, .ref (am 0)), (1, .int (nI t)), (2, .int v)] (by decide) rfl rfl dX5_notes_26 ?_
    refine v_iconst C 0 (by decide) dX5_notes_27 ?_
    refine v_istore C [(4, .int 0), (3, .ref b0), (0, .ref (am 0)), (1, .int (nI t)), (2, .int v)] (by decide) rfl dX5_notes_28 ?_
    refine V.sub [2, 3, 4, 1, 0] rfl (lp_X5_notes S am q hA hV hSG t v ht hc (by omega) b0 hf (0 + 1) (0 + 2 * (cn q (100 + t))) C (fun T hT => ?_) ((cn q (100 + t)) + 1) 0 (nA S b0 11 (2 * (cn q (100 + t)))) (by omega) (by omega) ⟨FrB.rf, fun z hz => absurd hz (Nat.not_lt_zero z)⟩)
    obtain ⟨hF, hz⟩ := hT
    have o := hF.old hf
    have hAT := hA.old o
    have hVT := hV.old hA o
    have h60 := hA.hn
    have hb1 : hK T b0 = 11 := (hF.1 b0).trans (hK_nA1 (n := 2 * (cn q (100 + t))))
    have hn1 : hN T b0 = 2 * (cn q (100 + t)) := (hF.2.2.1 b0).trans hN_nA1
    have hne : am (20 + t) ≠ b0 := ne_fresh (hA.kh t ht) (by decide) hf
    have hrow : aI T (am (20 + t)) = aI S (am (20 + t)) := (o _ (by rw [hA.kh t ht]; decide)).2.2.2.2.2.1
    have hlen : hN T (am (20 + t)) = hN S (am (20 + t)) := (o _ (by rw [hA.kh t ht]; decide)).2.1
    refine v_aload_n C 0 rfl rfl dX5_notes_60 ?_
    refine v_getR C (am 4) fl_RX5_21 hAT.k0 hAT.r45 dX5_notes_61 ?_
    refine v_iload_n C 1 rfl rfl dX5_notes_64 ?_
    refine v_aload_n C 3 rfl rfl dX5_notes_65 ?_
    refine v_aastCj C t (nI_clamp (by omega)) hAT.k4 hb1 (vpi hAT.n4 (vp_in_nI (by omega) (by decide))) dX5_notes_66 ?_
    have hA7 := hAT.row (t := t) (b0 := b0) hb1 (fun i hi => ne_fresh (hA.kh i hi) (by decide) hf)
    have hV7 := hVT.row (t := t) (b0 := b0) (fun j hj => (hz j hj).trans (hV.hr t ht j hj)) (by rw [hn1]; omega)
    have h07 : amU am t b0 0 = am 0 := amUl (by omega)
    have h27 : amU am t b0 (20 + t) = b0 := amUt
    refine V.sub [0, 1, 2] ?_ (sg_X5_notes (tR T (am 4) t (some b0)) (amU am t b0) q hA7 hV7 t x v hx hxc ht (by rw [h27]; show _ < hN T b0; omega) (0 + 1) (0 + 2 * (cn q (100 + t))) C ?_)
    · rw [h07]; rfl
    refine v_vret C hRT (by show 0 + 1 ≤ 1; omega) (by show 0 + 2 * (cn q (100 + t)) ≤ 660; omega) dX5_notes_91 ⟨rfl, amU am t b0, fun i hi => amUl hi, hA7.tI.tI, nt_NV hA7 hV7 ht (by rw [h27]; show _ < hN T b0; omega) hx, ?_⟩
    refine ⟨fun f a ha => (o a ha).2.2.2.1 f, fun f a ha => (o a ha).2.2.2.2.1 f, fun i hi h5 => ?_⟩
    have h9 := (nt_FrH (S := tR T (am 4) t (some b0)) (v := v) (w := nI (cn q (100 + t)) + 1) (j := (cn q (100 + t))) hA7 ht).2.2 i hi h5
    rw [show amU am t b0 i = am i from amUl (by omega)] at h9
    exact h9.trans (o _ (hA.nz i hi)).2.2.2.2.2.1
