theorem and63 (v : Int32) : ∃ j : Nat, j < 64 ∧ v &&& 63 = nI j := by
  refine ⟨(v.toBitVec &&& 63#32).toNat, ?_, ?_⟩
  · rw [BitVec.toNat_and]
    exact Nat.lt_of_le_of_lt Nat.and_le_right (by decide)
  · apply Int32.toBitVec_inj.mp
    show (v.toBitVec &&& 63#32) = BitVec.ofNat 32 _
    rw [BitVec.ofNat_toNat, BitVec.setWidth_eq]
theorem sIdx {c L z : Nat} (h : 5 * c + z < L) (hL : L ≤ 2560) : vp_in (nI (5 * c) + nI z) L := by
  rw [nI_s]
  exact vp_in_nI h (by omega)
theorem sIn {c L : Nat} (h : 5 * c + 5 ≤ L) (hL : L ≤ 2560) : ∀ z : Int32, z = 1 ∨ z = 2 ∨ z = 3 ∨ z = 4 → vp_in (nI (5 * c) + z) L := by
  rintro z (rfl | rfl | rfl | rfl)
  · exact sIdx (z := 1) (by omega) hL
  · exact sIdx (z := 2) (by omega) hL
  · exact sIdx (z := 3) (by omega) hL
  · exact sIdx (z := 4) (by omega) hL
theorem sEnd {c L : Nat} (hc : 5 * c ≤ L) (hL : L ≤ 2560) (h : ¬ (Int32.ofNat L - 5) < nI (5 * c)) : 5 * c + 5 ≤ L := by
  have e : Int32.ofNat L - 5 = iO ((L : Int) - 5) := by
    rw [← iO_sub]
    rfl
  rw [e, nI_iO, iO_lt (by omega) (by omega) (by omega) (by omega)] at h
  omega
set_option maxRecDepth 100000 in
set_option maxHeartbeats 4000000 in
theorem lw_loop {l : Launch} {pP : Program} {eE : Env} {sS : State} {mM : MethodId} {aA : Array Value} {bB : List Frame} {tT : Method} {cC : Code} {G : GT} {A : Nat → Prop} {Q : State → Prop} (hlf : l.stackTraces = false) (C : Cx pP l eE room_1 sS mM aA bB tT cC cL_law 9 RL G A) {b L : Nat} {xs : Nat → Int32} (hL : L ≤ 2560) (hX : va_X b L xs sS sS.heap) (hbl : b < sS.heap.size) (hbA : ¬ A b) (x1 x2 ao dx : Nat) (kkE : ∀ (w : HS) (iv : Int32) (k n : Nat), k ≤ 603072 → n ≤ 7207018 → V pP l eE room_1 sS mM aA bB tT cC 9 G A w k n Q 1975 [(5, .int iv), (4, .ref dx), (3, .ref ao), (2, .ref x2), (1, .ref x1), (0, .ref b)] []) :
    ∀ (N c P : Nat) (w S1 S2 : HS) (ad : AD) (am : AM) (q : AS) (k n : Nat), L + 1 ≤ 5 * c + N → 5 * c ≤ L → 2 * P + bF q ≤ c → LJ w S1 S2 ad am q q ao dx → ad 0 0 = x1 → am 0 = x2 → INV q (P + 1) → k ≤ 100 + 52 * P + 16 * c → n ≤ 2000 + 23300 * P + 2100 * c → V pP l eE room_1 sS mM aA bB tT cC 9 G A w k n Q 28 [(5, .int (nI (5 * c))), (4, .ref dx), (3, .ref ao), (2, .ref x2), (1, .ref x1), (0, .ref b)] [] := by
  intro N
  induction N with
  | zero =>
    intro c P w S1 S2 ad am q k n hN hc
    omega
  | succ N ih =>
    intro c P w S1 S2 ad am q k n hN hc hP hJ ha hm hI hk hn
    have hcL : (Int32.ofNat L) = nI L := rfl
    refine v_iload C 0 rfl dL_law_28 ?_
    refine v_aload_n C 5 rfl rfl dL_law_30 ?_
    refine v_slen C hX hbl hbA dL_law_31 ?_
    refine v_iconst C 5 (by decide) dL_law_32 ?_
    refine v_isub C dL_law_33 ?_
    refine v_icmp_gt C 1975 (by decide) dL_law_34 (fun c34 => ?_) (fun c34 => ?_)
    · exact kkE w _ k n (by omega) (by omega)
    have hc5 : 5 * c + 5 ≤ L := sEnd hc hL c34
    have hin := sIn hc5 hL
    have hback : ∀ (w' S1' S2' : HS) (ad' : AD) (am' : AM) (q' : AS) (B' k' n' : Nat), LJ w' S1' S2' ad' am' q' q' ao dx → ad' 0 0 = ad 0 0 → am' 0 = am 0 → INV q' B' → LB q q' (P + 1) B' k n k' n' → V pP l eE room_1 sS mM aA bB tT cC 9 G A w' k' n' Q 1969 [(5, .int (nI (5 * c))), (4, .ref dx), (3, .ref ao), (2, .ref (am 0)), (1, .ref (ad 0 0)), (0, .ref b)] [] := by
      intro w' S1' S2' ad' am' q' B' k' n' hJ' ha' hm' hI' hLB
      rw [ha, hm]
      refine v_iinc C (nI (5 * (c + 1))) 0 [(5, .int (nI (5 * (c + 1)))), (4, .ref dx), (3, .ref ao), (2, .ref x2), (1, .ref x1), (0, .ref b)] rfl (by rw [show nI (5 * (c + 1)) = nI (5 * c) + nI 5 from (nI_s _ _).symm]; rfl) (by decide) rfl dL_law_1969 ?_
      refine v_goto C 28 (by decide) dL_law_1972 ?_
      rcases hLB with ⟨rfl, h1, h2⟩ | ⟨rfl, h0, h00, h1, h2⟩
      · have hb := bF_le q'
        exact ih (c + 1) P w' S1' S2' ad' am' q' k' n' (by omega) (by omega) (by omega) hJ' (ha'.trans ha) (hm'.trans hm) hI' (by omega) (by omega)
      · exact ih (c + 1) (P + 1) w' S1' S2' ad' am' q' k' n' (by omega) (by omega) (by omega) hJ' (ha'.trans ha) (hm'.trans hm) hI' (by omega) (by omega)
    refine v_aload_n C 5 rfl rfl dL_law_37 ?_
    refine v_iload C 0 rfl dL_law_38 ?_
    obtain ⟨a0, e0⟩ : ∃ z, xs (nI (5 * c)).toNatClampNeg = z := ⟨_, rfl⟩
    refine v_sld C hX hbl hbA (vp_in_nI (by omega) (by omega)) e0 dL_law_40 ?_
    refine v_bipush C 63 (by decide) dL_law_41 ?_
    refine v_iand C dL_law_43 ?_
    obtain ⟨j, hj, ej⟩ := and63 a0
    rw [ej, ← ha, ← hm]
    match j, hj with
    | 0, _ => exact v_tsw C 196 (by decide) (by decide) (show _ = some (152 : Int) from rfl) (by decide) dL_law_44 (lw_addPair hlf C hX hbl hbA (nI (5 * c)) hin w S1 S2 ad am q ao dx hJ (P + 1) k n hI (by omega) (by omega) (by omega) hback)
    | 1, _ => exact v_tsw C 276 (by decide) (by decide) (show _ = some (232 : Int) from rfl) (by decide) dL_law_44 (lw_forgetPairs hlf C hX hbl hbA (nI (5 * c)) hin w S1 S2 ad am q ao dx hJ (P + 1) k n hI (by omega) (by omega) (by omega) hback)
    | 2, _ => exact v_tsw C 332 (by decide) (by decide) (show _ = some (288 : Int) from rfl) (by decide) dL_law_44 (lw_correctedTime hlf C hX hbl hbA (nI (5 * c)) hin w S1 S2 ad am q ao dx hJ (P + 1) k n hI (by omega) (by omega) (by omega) hback)
    | 3, _ => exact v_tsw C 400 (by decide) (by decide) (show _ = some (356 : Int) from rfl) (by decide) dL_law_44 (lw_setGate hlf C hX hbl hbA (nI (5 * c)) hin w S1 S2 ad am q ao dx hJ (P + 1) k n hI (by omega) (by omega) (by omega) hback)
    | 4, _ => exact v_tsw C 456 (by decide) (by decide) (show _ = some (412 : Int) from rfl) (by decide) dL_law_44 (lw_setFilter hlf C hX hbl hbA (nI (5 * c)) hin w S1 S2 ad am q ao dx hJ (P + 1) k n hI (by omega) (by omega) (by omega) hback)
    | 5, _ => exact v_tsw C 524 (by decide) (by decide) (show _ = some (480 : Int) from rfl) (by decide) dL_law_44 (lw_setLimit hlf C hX hbl hbA (nI (5 * c)) hin w S1 S2 ad am q ao dx hJ (P + 1) k n hI (by omega) (by omega) (by omega) hback)
    | 6, _ => exact v_tsw C 580 (by decide) (by decide) (show _ = some (536 : Int) from rfl) (by decide) dL_law_44 (lw_setNearness hlf C hX hbl hbA (nI (5 * c)) hin w S1 S2 ad am q ao dx hJ (P + 1) k n hI (by omega) (by omega) (by omega) hback)
    | 7, _ => exact v_tsw C 636 (by decide) (by decide) (show _ = some (592 : Int) from rfl) (by decide) dL_law_44 (lw_report hlf C hX hbl hbA (nI (5 * c)) hin w S1 S2 ad am q ao dx hJ (P + 1) k n hI (by omega) (by omega) (by omega) hback)
    | 8, _ => exact v_tsw C 728 (by decide) (by decide) (show _ = some (684 : Int) from rfl) (by decide) dL_law_44 (lw_clearBatch hlf C hX hbl hbA (nI (5 * c)) hin w S1 S2 ad am q ao dx hJ (P + 1) k n hI (by omega) (by omega) (by omega) hback)
    | 9, _ => exact v_tsw C 741 (by decide) (by decide) (show _ = some (697 : Int) from rfl) (by decide) dL_law_44 (lw_process hlf C hX hbl hbA (nI (5 * c)) hin w S1 S2 ad am q ao dx hJ (P + 1) k n hI (by omega) (by omega) (by omega) hback)
    | 10, _ => exact v_tsw C 785 (by decide) (by decide) (show _ = some (741 : Int) from rfl) (by decide) dL_law_44 (lw_batch hlf C hX hbl hbA (nI (5 * c)) hin w S1 S2 ad am q ao dx hJ (P + 1) k n hI (by omega) (by omega) (by omega) hback)
    | 11, _ => exact v_tsw C 798 (by decide) (by decide) (show _ = some (754 : Int) from rfl) (by decide) dL_law_44 (lw_distance hlf C hX hbl hbA (nI (5 * c)) hin w S1 S2 ad am q ao dx hJ (P + 1) k n hI (by omega) (by omega) (by omega) hback)
    | 12, _ => exact v_tsw C 865 (by decide) (by decide) (show _ = some (821 : Int) from rfl) (by decide) dL_law_44 (lw_canTake hlf C hX hbl hbA (nI (5 * c)) hin w S1 S2 ad am q ao dx hJ (P + 1) k n hI (by omega) (by omega) (by omega) hback)
    | 13, _ => exact v_tsw C 940 (by decide) (by decide) (show _ = some (896 : Int) from rfl) (by decide) dL_law_44 (lw_bestCost hlf C hX hbl hbA (nI (5 * c)) hin w S1 S2 ad am q ao dx hJ (P + 1) k n hI (by omega) (by omega) (by omega) hback)
    | 14, _ => exact v_tsw C 954 (by decide) (by decide) (show _ = some (910 : Int) from rfl) (by decide) dL_law_44 (lw_bestCostByTrying hlf C hX hbl hbA (nI (5 * c)) hin w S1 S2 ad am q ao dx hJ (P + 1) k n hI (by omega) (by omega) (by omega) hback)
    | 15, _ => exact v_tsw C 968 (by decide) (by decide) (show _ = some (924 : Int) from rfl) (by decide) dL_law_44 (lw_goesTo hlf C hX hbl hbA (nI (5 * c)) hin w S1 S2 ad am q ao dx hJ (P + 1) k n hI (by omega) (by omega) (by omega) hback)
    | 16, _ => exact v_tsw C 1024 (by decide) (by decide) (show _ = some (980 : Int) from rfl) (by decide) dL_law_44 (lw_tracks hlf C hX hbl hbA (nI (5 * c)) hin w S1 S2 ad am q ao dx hJ (P + 1) k n hI (by omega) (by omega) (by omega) hback)
    | 17, _ => exact v_tsw C 1037 (by decide) (by decide) (show _ = some (993 : Int) from rfl) (by decide) dL_law_44 (lw_liveTracks hlf C hX hbl hbA (nI (5 * c)) hin w S1 S2 ad am q ao dx hJ (P + 1) k n hI (by omega) (by omega) (by omega) hback)
    | 18, _ => exact v_tsw C 1050 (by decide) (by decide) (show _ = some (1006 : Int) from rfl) (by decide) dL_law_44 (lw_status hlf C hX hbl hbA (nI (5 * c)) hin w S1 S2 ad am q ao dx hJ (P + 1) k n hI (by omega) (by omega) (by omega) hback)
    | 19, _ => exact v_tsw C 1106 (by decide) (by decide) (show _ = some (1062 : Int) from rfl) (by decide) dL_law_44 (lw_timeOf hlf C hX hbl hbA (nI (5 * c)) hin w S1 S2 ad am q ao dx hJ (P + 1) k n hI (by omega) (by omega) (by omega) hback)
    | 20, _ => exact v_tsw C 1162 (by decide) (by decide) (show _ = some (1118 : Int) from rfl) (by decide) dL_law_44 (lw_stateOf hlf C hX hbl hbA (nI (5 * c)) hin w S1 S2 ad am q ao dx hJ (P + 1) k n hI (by omega) (by omega) (by omega) hback)
    | 21, _ => exact v_tsw C 1230 (by decide) (by decide) (show _ = some (1186 : Int) from rfl) (by decide) dL_law_44 (lw_predicted hlf C hX hbl hbA (nI (5 * c)) hin w S1 S2 ad am q ao dx hJ (P + 1) k n hI (by omega) (by omega) (by omega) hback)
    | 22, _ => exact v_tsw C 1326 (by decide) (by decide) (show _ = some (1282 : Int) from rfl) (by decide) dL_law_44 (lw_hits hlf C hX hbl hbA (nI (5 * c)) hin w S1 S2 ad am q ao dx hJ (P + 1) k n hI (by omega) (by omega) (by omega) hback)
    | 23, _ => exact v_tsw C 1382 (by decide) (by decide) (show _ = some (1338 : Int) from rfl) (by decide) dL_law_44 (lw_misses hlf C hX hbl hbA (nI (5 * c)) hin w S1 S2 ad am q ao dx hJ (P + 1) k n hI (by omega) (by omega) (by omega) hback)
    | 24, _ => exact v_tsw C 1438 (by decide) (by decide) (show _ = some (1394 : Int) from rfl) (by decide) dL_law_44 (lw_mergedInto hlf C hX hbl hbA (nI (5 * c)) hin w S1 S2 ad am q ao dx hJ (P + 1) k n hI (by omega) (by omega) (by omega) hback)
    | 25, _ => exact v_tsw C 1494 (by decide) (by decide) (show _ = some (1450 : Int) from rfl) (by decide) dL_law_44 (lw_historyLength hlf C hX hbl hbA (nI (5 * c)) hin w S1 S2 ad am q ao dx hJ (P + 1) k n hI (by omega) (by omega) (by omega) hback)
    | 26, _ => exact v_tsw C 1550 (by decide) (by decide) (show _ = some (1506 : Int) from rfl) (by decide) dL_law_44 (lw_historyAt hlf C hX hbl hbA (nI (5 * c)) hin w S1 S2 ad am q ao dx hJ (P + 1) k n hI (by omega) (by omega) (by omega) hback)
    | 27, _ => exact v_tsw C 1618 (by decide) (by decide) (show _ = some (1574 : Int) from rfl) (by decide) dL_law_44 (lw_quality hlf C hX hbl hbA (nI (5 * c)) hin w S1 S2 ad am q ao dx hJ (P + 1) k n hI (by omega) (by omega) (by omega) hback)
    | 28, _ => exact v_tsw C 1674 (by decide) (by decide) (show _ = some (1630 : Int) from rfl) (by decide) dL_law_44 (lw_countOf hlf C hX hbl hbA (nI (5 * c)) hin w S1 S2 ad am q ao dx hJ (P + 1) k n hI (by omega) (by omega) (by omega) hback)
    | 29, _ => exact v_tsw C 1732 (by decide) (by decide) (show _ = some (1688 : Int) from rfl) (by decide) dL_law_44 (lw_nearest hlf C hX hbl hbA (nI (5 * c)) hin w S1 S2 ad am q ao dx hJ (P + 1) k n hI (by omega) (by omega) (by omega) hback)
    | 30, _ => exact v_tsw C 1812 (by decide) (by decide) (show _ = some (1768 : Int) from rfl) (by decide) dL_law_44 (lw_dropped hlf C hX hbl hbA (nI (5 * c)) hin w S1 S2 ad am q ao dx hJ (P + 1) k n hI (by omega) (by omega) (by omega) hback)
    | 31, _ => exact v_tsw C 1825 (by decide) (by decide) (show _ = some (1781 : Int) from rfl) (by decide) dL_law_44 (lw_isBalanced hlf C hX hbl hbA (nI (5 * c)) hin w S1 S2 ad am q ao dx hJ (P + 1) k n hI (by omega) (by omega) (by omega) hback)
    | 32, _ => exact v_tsw C 1838 (by decide) (by decide) (show _ = some (1794 : Int) from rfl) (by decide) dL_law_44 (lw_takenShare hlf C hX hbl hbA (nI (5 * c)) hin w S1 S2 ad am q ao dx hJ (P + 1) k n hI (by omega) (by omega) (by omega) hback)
    | 33, _ => exact v_tsw C 1904 (by decide) (by decide) (show _ = some (1860 : Int) from rfl) (by decide) dL_law_44 (lw_meanHits hlf C hX hbl hbA (nI (5 * c)) hin w S1 S2 ad am q ao dx hJ (P + 1) k n hI (by omega) (by omega) (by omega) hback)
    | j + 34, hj =>
      refine v_tswd C 1969 (Or.inr ?_) (by decide) dL_law_44 (hback w S1 S2 ad am q (P + 1) k n hJ rfl rfl hI (Or.inl ⟨rfl, by omega, by omega⟩))
      rw [nI_iO, iO_toInt (by omega) (by omega)]
      omega
