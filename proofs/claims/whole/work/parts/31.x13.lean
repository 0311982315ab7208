theorem nI_z {n : Nat} (h : nI n = 0) (hn : n < 2 ^ 31) : n = 0 := by
  rcases Nat.eq_zero_or_pos n with z | z
  · exact z
  · exact absurd (nge (a := 0) (b := n) (by rw [h]; exact Int32.le_refl _) hn) (by omega)
theorem XM.toW {S : HS} {ad : AD} {q : AS} (h : XM S ad q (cn q 0) (cntP (liveP q) (cn q 1)) (lvt (liveP q) (cn q 1))) (g : XB S ad q) : XW S ad q := ⟨h.1, h.2.1, h.2.2.2.1, g.2⟩
set_option maxRecDepth 100000 in
set_option maxHeartbeats 4000000 in
theorem c_X4_process (l : Launch) (hlf : l.stackTraces = false) (S : HS) (ad : AD) (q : AS) (hB : BI q) (B : Nat) (hh : HB q B) (hb : B ≤ 300) (hA : XA S ad (cn q 1)) (hV : XV S ad q) : cX l yX4_process cX4_process 2 (Option.some Jvm.ClassFile.FieldType.int) 15 [.ref (ad 0 0)] S (pI fun r u => cn q 0 ≠ 0 ∧ (∃ ad3 : AD, ad3 0 0 = ad 0 0 ∧ XA u ad3 (cn (prA q) 1) ∧ XV u ad3 (prA q)) ∧ nI (TK q (cn q 0)) = r) (fun E u => E = eIS ∧ S = u ∧ cn q 0 = 0) 8 2096 := by
  refine cX_intro (by decide +kernel) cd_X4_process (Nat.le_of_ble_eq_true rfl) ?_
  intro pP eE sS mM aA bB tT cC G A C hRT hnt
  refine V.lvs (lv2 := [(0, .ref (ad 0 0))]) rfl ?_
  have hh4 : ∀ t, t < cn q 1 → cn q (100 + t) ≤ 400 := fun t ht => by have := hh t ht; have := hB.b1; omega
  obtain ⟨g1, g2, g3, g4⟩ := BG_I hB hh hb (cn q 0) (Nat.le_refl _)
  refine v_aload_n C 0 rfl rfl dX4_process_0 ?_
  refine v_getI C (nI (cn q 0)) fl_RX4_93 hA.k0 hV.v30 dX4_process_1 ?_
  refine v_if_ne C 17 (by decide) dX4_process_4 (fun c4 => ?_) (fun c4 => ?_)
  · refine v_aload_n C 0 rfl rfl dX4_process_17 ?_
    refine v_callVv C (st := []) [] (c_X4_findBestMatching l S ad q hA hV hB) ml_RX4_111 mi_yX4_findBestMatching hA.k0 (by decide) (by decide +kernel) rfl (Nat.le_of_ble_eq_true rfl) (Nat.le_of_ble_eq_true rfl) (Nat.le_of_ble_eq_true rfl) (Nat.le_of_ble_eq_true rfl) (Nat.le_of_ble_eq_true rfl) dX4_process_18 (fun u1 h => ?_) _ rfl
    obtain ⟨hF, hX, hXb⟩ := h
    have hA1 := hF.toA hA
    have hV1 := hF.toV hA hV
    have hW1 := XM.toW hX hXb
    refine v_aload_n C 0 rfl rfl dX4_process_21 ?_
    refine v_callVi C (st := []) [] (c_X4_changeTakers l u1 ad q hB hh4 hA1 hV1 hW1) ml_RX4_114 mi_yX4_changeTakers hA1.k0 (by decide) (by decide +kernel) rfl (Nat.le_of_ble_eq_true rfl) (Nat.le_of_ble_eq_true rfl) (Nat.le_of_ble_eq_true rfl) (Nat.le_of_ble_eq_true rfl) (Nat.le_of_ble_eq_true rfl) dX4_process_22 (fun r u2 h => ?_) _ rfl
    obtain ⟨rfl, hA2, hV2, hW2⟩ := h
    refine v_istore_n C [(1, .int (nI (TK q (cn q 0)))), (0, .ref (ad 0 0))] (by decide) rfl rfl dX4_process_25 ?_
    refine v_aload_n C 1 rfl rfl dX4_process_26 ?_
    refine v_callVv C (st := []) [] (c_X4_missOthers l u2 ad q hB hh4 hA2 hV2 hW2) ml_RX4_118 mi_yX4_missOthers hA2.k0 (by decide) (by decide +kernel) rfl (Nat.le_of_ble_eq_true rfl) (Nat.le_of_ble_eq_true rfl) (Nat.le_of_ble_eq_true rfl) (Nat.le_of_ble_eq_true rfl) (Nat.le_of_ble_eq_true rfl) dX4_process_27 (fun u3 h => ?_) _ rfl
    obtain ⟨hA3, hV3, hW3⟩ := h
    have hA3b : XA u3 ad (cn (BG q 0) 1) := by rw [show cn (BG q 0) 1 = cn q 1 from (MS_I hB hh4 (lcn q) (Nat.le_refl _)).2.1.1 1 (by decide)]; exact hA3
    refine v_aload_n C 1 rfl rfl dX4_process_30 ?_
    refine v_callVv C (st := []) [] (c_X4_beginTracks l u3 ad q hB B hh hb hA3b hV3 hW3) ml_RX4_121 mi_yX4_beginTracks hA3.k0 (by decide) (by decide +kernel) rfl (Nat.le_of_ble_eq_true rfl) (Nat.le_of_ble_eq_true rfl) (Nat.le_of_ble_eq_true rfl) (Nat.le_of_ble_eq_true rfl) (Nat.le_of_ble_eq_true rfl) dX4_process_31 (fun u4 h => ?_) _ rfl
    obtain ⟨ad2, hx4, hA4, hV4⟩ := h
    rw [← hx4]
    refine v_aload_n C 1 rfl rfl dX4_process_34 ?_
    refine v_callVv C (st := []) [] (c_X4_mergeTracks l u4 ad2 q (B + 1) g1 g2 (by omega) hA4 hV4) ml_RX4_124 mi_yX4_mergeTracks hA4.k0 (by decide) (by decide +kernel) rfl (Nat.le_of_ble_eq_true rfl) (Nat.le_of_ble_eq_true rfl) (Nat.le_of_ble_eq_true rfl) (Nat.le_of_ble_eq_true rfl) (Nat.le_of_ble_eq_true rfl) dX4_process_35 (fun u5 h => ?_) _ rfl
    obtain ⟨hA5, hV5⟩ := h
    have hA5b : XA u5 ad2 (cn (MA q (cn (BG q (cn q 0)) 1)) 1) := by rw [(MA_I g1 g2 (by omega) (cn (BG q (cn q 0)) 1) (Nat.le_refl _)).2.2.1 1 (by decide)]; exact hA5
    refine v_aload_n C 1 rfl rfl dX4_process_38 ?_
    refine v_dup C rfl dX4_process_39 ?_
    refine v_getI C (nI (cn (MA q (cn (BG q (cn q 0)) 1)) 2)) fl_RX4_127 hA5.k0 hV5.v39 dX4_process_40 ?_
    refine v_aload_n C 1 rfl rfl dX4_process_43 ?_
    refine v_getI C (nI (cn (MA q (cn (BG q (cn q 0)) 1)) 0)) fl_RX4_93 hA5.k0 hV5.v30 dX4_process_44 ?_
    refine v_iadd C dX4_process_47 ?_
    refine v_putI C fl_RX4_127 hA5.k0 rfl rfl dX4_process_48 ?_
    refine v_aload_n C 1 rfl rfl dX4_process_51 ?_
    refine v_iconst C 0 (by decide) dX4_process_52 ?_
    refine v_putI C fl_RX4_93 hA5.k0 rfl rfl dX4_process_53 ?_
    refine v_iload_n C 0 rfl rfl dX4_process_56 ?_
    exact v_xiret C hRT (Nat.le_of_ble_eq_true rfl) (Nat.le_of_ble_eq_true rfl) dX4_process_57 ⟨_, rfl, fun z => c4 (by rw [z]; rfl), ⟨ad2, rfl, by show XA _ ad2 (cn (fin0 (MA q (cn (BG q (cn q 0)) 1))) 1); rw [fin_cn _ (by decide) (by decide)]; exact hA5b.of rfl rfl rfl rfl, XV.fin hA5b hV5⟩, rfl⟩
  · exact v_throwS C hlf tl_100_109 hnt (Nat.le_of_ble_eq_true rfl) (Nat.le_of_ble_eq_true rfl) (Nat.le_of_ble_eq_true rfl) (Nat.le_of_ble_eq_true rfl) (Nat.le_of_ble_eq_true rfl) (Nat.le_of_ble_eq_true rfl) (Nat.le_of_ble_eq_true rfl) ⟨rfl, rfl, nI_z c4 (by have := hB.b0; omega)⟩ dX4_process_7 dX4_process_10 dX4_process_11 dX4_process_13 dX4_process_16
