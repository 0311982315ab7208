set_option maxRecDepth 100000 in
set_option maxHeartbeats 4000000 in
theorem lp_X5_pr1 {l : Launch} {pP : Program} {eE : Env} {sS : State} {mM : MethodId} {aA : Array Value} {bB : List Frame} {tT : Method} {cC : Code} {G : GT} {A : Nat → Prop} {Q : State → Prop}  (S : HS) (x0 : Nat) (q : AS) (hB : BI q) (B : Nat) (hh : HB q B) (hb : B ≤ 258) (hSG : SGB q) (hIT : ITO q)  (C : Cx pP l eE (rmD 22 36 21152) sS mM aA bB tT cC cX5_process 5 RX5 G A) (kk : ∀ (T : HS) (am : AM) (k0 n0 : Nat), am 0 = x0 → PZ T am q (FS q (cn q 0)) → k0 ≤ 4 → n0 ≤ 2640 → V pP l eE (rmD 22 36 21152) sS mM aA bB tT cC 5 G A T k0 n0 Q 76 [(0, .ref x0), (1, .int (nI (TK q (cn q 0)))), (2, .int (nI (cn q 1))), (3, .int (nI (cn q 0)))] []) : ∀ (N : Nat) (r : Nat) (T : HS) (am : AM) (k0 n0 : Nat), (hN9 : cn q 0 + 1 ≤ r + N) → (hi : r ≤ cn q 0) → (hx : am 0 = x0) → (hP : PZ T am q (FS q r)) → (hkn : k0 ≤ r ∧ n0 ≤ 660 * r) → V pP l eE (rmD 22 36 21152) sS mM aA bB tT cC 5 G A T k0 n0 Q 38 [(0, .ref x0), (1, .int (nI (TK q r))), (2, .int (nI (cn q 1))), (3, .int (nI r))] [] := by
  intro N
  induction N with
  | zero =>
    intro r T am k0 n0 hN9 hi hx hP hkn
    exact absurd hN9 (by omega)
  | succ N ih =>
    intro r T am k0 n0 hN9 hi hx hP hkn
    subst hx
    obtain ⟨hk0, hn0⟩ := hkn
    have h320 := hh320 hB hh hb
    have h400 : ∀ t, t < cn q 1 → cn q (100 + t) ≤ 400 := fun t ht => by have := h320 t ht; omega
    obtain ⟨f1, f2, f3, f4, f5⟩ := FS_I hB h400 r hi
    have h04 := hB.b0
    have h60 := hB.b1
    have e0 := f2.1 0 (by decide)
    have e1 := f2.1 1 (by decide)
    have hv50 : hI T 50 (am 0) = nI (cn q 0) := by rw [hP.2.1.v50, e0]
    refine v_iload_n C 3 rfl rfl dX5_process_38 ?_
    refine v_aload_n C 0 rfl rfl dX5_process_39 ?_
    refine v_getI C (nI (cn q 0)) fl_RX5_111 hP.1.k0 hv50 dX5_process_40 ?_
    refine v_icmp_ge C 76 (by decide) dX5_process_43 (fun c43 => ?_) (fun c43 => ?_)
    · obtain rfl : r = cn q 0 := by have := nge c43 (by omega); omega
      exact V.sub [0, 1, 2, 3] rfl (kk T am k0 n0 rfl hP (by omega) (by omega))
    · have hlt : r < cn q 0 := nlt c43 (by omega)
      refine v_aload_n C 0 rfl rfl dX5_process_46 ?_
      refine v_getR C (am 10) fl_RX5_56 hP.1.k0 hP.1.r59 dX5_process_47 ?_
      refine v_iload_n C 3 rfl rfl dX5_process_50 ?_
      refine v_iald C (iO (gtA q r)) hP.1.k10 (vpi hP.1.n10 (vp_in_nI (by omega) (by decide))) ((congrArg _ (nI_clamp (by omega))).trans (hP.2.2.2 r hlt)) dX5_process_51 ?_
      refine v_iconst C (-1) (by decide) dX5_process_52 ?_
      refine v_icmp_eq C 70 (by decide) dX5_process_53 (fun c53 => ?_) (fun c53 => ?_)
      · refine v_iinc C (nI (r + 1)) 3 [(3, .int (nI (r + 1))), (0, .ref (am 0)), (1, .int (nI (TK q r))), (2, .int (nI (cn q 1)))] rfl (by rw [← nI_1]; rfl) (by decide) rfl dX5_process_70 ?_
        refine v_goto C 38 (by decide) dX5_process_73 ?_
        obtain ⟨ef, et⟩ := FS_neg ((gt_n hB hlt).mp c53)
        refine V.sub [1, 2, 3, 0] rfl ?_
        have key := ih (r + 1) T am k0 n0 (by omega) hlt rfl (by rw [ef]; exact hP) ⟨by omega, by omega⟩
        rw [et] at key
        exact key
      · have hng : ¬ tkr q r < 0 := fun z => c53 ((gt_n hB hlt).mpr z)
        obtain ⟨i9, t1, t2, t3, t4⟩ := tkr_nn q hlt hng
        have htl : tkt q r < cn q 1 := by rw [t4]; exact (lti_lt q t2).1
        have hrow := f4 (tkt q r) (fun r2 hr2 h02 => tkt_ne q hr2 hlt h02 hng)
        have hcc : 0 ≤ ctk (FS q r) r (tkt q r) := by rw [ctk_same f2 hrow, t4]; exact t3
        obtain ⟨ef, et⟩ := FS_pos hng
        refine v_aload_n C 0 rfl rfl dX5_process_56 ?_
        refine v_aload_n C 0 rfl rfl dX5_process_57 ?_
        refine v_getR C (am 10) fl_RX5_56 hP.1.k0 hP.1.r59 dX5_process_58 ?_
        refine v_iload_n C 3 rfl rfl dX5_process_61 ?_
        refine v_iald C (iO (gtA q r)) hP.1.k10 (vpi hP.1.n10 (vp_in_nI (by omega) (by decide))) ((congrArg _ (nI_clamp (by omega))).trans (hP.2.2.2 r hlt)) dX5_process_62 ?_
        rw [gt_p hng]
        refine v_iload_n C 3 rfl rfl dX5_process_63 ?_
        refine v_callVv C (st := []) [.int (nI (tkt q r)), .int (nI r)] (c_X5_changes l T am (FS q r) f1 hP.1 hP.2.1 (FS_K hB h400 hSG hIT r hi).1 r (by omega) (tkt q r) (by omega) hcc (by have := f5 (tkt q r) htl; have := h320 (tkt q r) htl; omega)) ml_RX5_182 mi_yX5_changes hP.1.k0 (by decide) (by decide +kernel) rfl (Nat.le_of_ble_eq_true rfl) (Nat.le_of_ble_eq_true rfl) (Nat.le_of_ble_eq_true rfl) (by show k0 + 1 ≤ 36; omega) (by show n0 + 660 ≤ 21152; omega) dX5_process_64 (fun u h => ?_) _ rfl
        obtain ⟨am2, e2, gA, gV, gF⟩ := h
        have hP2 : PZ u am2 q (FS q (r + 1)) := by rw [ef]; exact hP.to e2 (by rw [show cn (flwA (FS q r) r (tkt q r)) 1 = cn (FS q r) 1 from (QT.flw (q := FS q r) (r := r) (t := tkt q r)).low.1 1 (by decide)]; exact gA) gV gF
        refine v_iinc C (nI (TK q r + 1)) 1 [(1, .int (nI (TK q r + 1))), (0, .ref (am 0)), (2, .int (nI (cn q 1))), (3, .int (nI r))] rfl (by rw [← nI_1]; rfl) (by decide) rfl dX5_process_67 ?_
        refine v_iinc C (nI (r + 1)) 3 [(3, .int (nI (r + 1))), (1, .int (nI (TK q r + 1))), (0, .ref (am 0)), (2, .int (nI (cn q 1)))] rfl (by rw [← nI_1]; rfl) (by decide) rfl dX5_process_70 ?_
        refine v_goto C 38 (by decide) dX5_process_73 ?_
        refine V.sub [2, 1, 3, 0] rfl ?_
        have key := ih (r + 1) u am2 (k0 + 1) (n0 + 660) (by omega) hlt (e2 0 (by decide)) hP2 ⟨by omega, by omega⟩
        rw [et] at key
        exact key
set_option maxRecDepth 100000 in
set_option maxHeartbeats 4000000 in
theorem lp_X5_pr2 {l : Launch} {pP : Program} {eE : Env} {sS : State} {mM : MethodId} {aA : Array Value} {bB : List Frame} {tT : Method} {cC : Code} {G : GT} {A : Nat → Prop} {Q : State → Prop}  (S : HS) (x0 : Nat) (q : AS) (hB : BI q) (B : Nat) (hh : HB q B) (hb : B ≤ 258) (hSG : SGB q) (hIT : ITO q) (x1 : Int32)  (C : Cx pP l eE (rmD 22 36 21152) sS mM aA bB tT cC cX5_process 5 RX5 G A) (kk : ∀ (T : HS) (am : AM) (k0 n0 : Nat), am 0 = x0 → PZ T am q (MS q (lcn q)) → k0 ≤ 16 → n0 ≤ 10560 → V pP l eE (rmD 22 36 21152) sS mM aA bB tT cC 5 G A T k0 n0 Q 157 [(0, .ref x0), (1, .int x1), (2, .int (nI (cn q 1))), (3, .int (nI (cn q 1)))] []) : ∀ (N : Nat) (t : Nat) (T : HS) (am : AM) (k0 n0 : Nat), (hN9 : cn q 1 + 1 ≤ t + N) → (hi : t ≤ cn q 1) → (hx : am 0 = x0) → (hP : PZ T am q (MS q (cntP (liveP q) t))) → (hkn : k0 ≤ 4 + 2 * (cntP (liveP q) t) ∧ n0 ≤ 2640 + 1320 * (cntP (liveP q) t)) → V pP l eE (rmD 22 36 21152) sS mM aA bB tT cC 5 G A T k0 n0 Q 78 [(0, .ref x0), (1, .int x1), (2, .int (nI (cn q 1))), (3, .int (nI t))] [] := by
  intro N
  induction N with
  | zero =>
    intro t T am k0 n0 hN9 hi hx hP hkn
    exact absurd hN9 (by omega)
  | succ N ih =>
    intro t T am k0 n0 hN9 hi hx hP hkn
    subst hx
    obtain ⟨hk0, hn0⟩ := hkn
    have h320 := hh320 hB hh hb
    have h400 : ∀ t, t < cn q 1 → cn q (100 + t) ≤ 400 := fun t ht => by have := h320 t ht; omega
    have hixl : (cntP (liveP q) t) ≤ lcn q := cntP_mono _ hi
    obtain ⟨m1, m2, m3, m4, m6⟩ := MS_I hB h400 (cntP (liveP q) t) hixl
    have hlv6 : lcn q ≤ 6 := hB.bv
    have h04 := hB.b0
    have h60 := hB.b1
    have e0 := m2.1 0 (by decide)
    have e1 := m2.1 1 (by decide)
    have e7 := MS_7 hB h400 hi
    have hSm := (MS_K hB h400 hSG hIT (cntP (liveP q) t) hixl).1
    refine v_iload_n C 3 rfl rfl dX5_process_78 ?_
    refine v_iload_n C 2 rfl rfl dX5_process_79 ?_
    refine v_icmp_ge C 157 (by decide) dX5_process_80 (fun c80 => ?_) (fun c80 => ?_)
    · obtain rfl : t = cn q 1 := by have := nge c80 (by omega); omega
      exact V.sub [0, 1, 2, 3] rfl (kk T am k0 n0 rfl hP (by omega) (by omega))
    · have ht : t < cn q 1 := nlt c80 (by omega)
      have htp : t < cn (MS q (cntP (liveP q) t)) 1 := by omega
      have hm4 := m4 t ht
      have h32t := h320 t ht
      refine v_aload_n C 0 rfl rfl dX5_process_83 ?_
      refine v_iload_n C 3 rfl rfl dX5_process_84 ?_
      refine v_callVi C (st := []) [.int (nI t)] (c_X5_isLive l T am (MS q (cntP (liveP q) t)) m1 (hP).1 (hP).2.1 t htp) ml_RX5_123 mi_yX5_isLive (hP).1.k0 (by decide) (by decide +kernel) rfl (Nat.le_of_ble_eq_true rfl) (Nat.le_of_ble_eq_true rfl) (Nat.le_of_ble_eq_true rfl) (by show k0 + 0 ≤ 36; omega) (by show n0 + 0 ≤ 21152; omega) dX5_process_85 (fun r u h => ?_) _ rfl
      obtain ⟨rfl, rfl⟩ := h
      refine v_if_eq C 151 (by decide) dX5_process_88 (fun c88 => ?_) (fun c88 => ?_)
      · refine v_iinc C (nI (t + 1)) 3 [(3, .int (nI (t + 1))), (0, .ref (am 0)), (1, .int x1), (2, .int (nI (cn q 1)))] rfl (by rw [← nI_1]; rfl) (by decide) rfl dX5_process_151 ?_
        refine v_goto C 78 (by decide) dX5_process_154 ?_
        have ec : cntP (liveP q) (t + 1) = (cntP (liveP q) t) := cntP_f (decide_eq_false (by rw [← e7]; exact bI_e0 c88))
        refine V.sub [1, 2, 3, 0] rfl ?_
        exact ih (t + 1) T am k0 n0 (by omega) ht rfl (by rw [ec]; exact hP) ⟨by omega, by omega⟩
      · refine v_aload_n C 0 rfl rfl dX5_process_91 ?_
        refine v_iload_n C 3 rfl rfl dX5_process_92 ?_
        have hl7 : zz q 3 t 7 = 0 := by rw [← e7]; exact bI_n0 c88
        have hv50 : hI T 50 (am 0) = nI (cn q 0) := by rw [hP.2.1.v50, e0]
        refine v_callVi C (st := []) [.int (nI t)] (c_X5_goesThere l T am (cn (MS q (cntP (liveP q) t)) 1) (cn q 0) t hP.1 hv50 h04) ml_RX5_186 mi_yX5_goesThere hP.1.k0 (by decide) (by decide +kernel) rfl (Nat.le_of_ble_eq_true rfl) (Nat.le_of_ble_eq_true rfl) (Nat.le_of_ble_eq_true rfl) (by show k0 + 0 ≤ 36; omega) (by show n0 + 0 ≤ 21152; omega) dX5_process_93 (fun r u h => ?_) _ rfl
        obtain ⟨rfl, rfl⟩ := h
        rw [goes_O hB hP.2.2.2 ht hl7]
        refine v_if_ne C 151 (by decide) dX5_process_96 (fun c96 => ?_) (fun c96 => ?_)
        · refine v_iinc C (nI (t + 1)) 3 [(3, .int (nI (t + 1))), (0, .ref (am 0)), (1, .int x1), (2, .int (nI (cn q 1)))] rfl (by rw [← nI_1]; rfl) (by decide) rfl dX5_process_151 ?_
          refine v_goto C 78 (by decide) dX5_process_154 ?_
          have ec : cntP (liveP q) (t + 1) = (cntP (liveP q) t) + 1 := cntP_t (decide_eq_true hl7)
          have ef := MS_t (bI_n0 c96)
          refine V.sub [1, 2, 3, 0] rfl ?_
          exact ih (t + 1) T am k0 n0 (by omega) ht rfl (by rw [ec, ef]; exact hP) ⟨by omega, by omega⟩
        · have hp1 : liveP q t = true := decide_eq_true hl7
          have ec : cntP (liveP q) (t + 1) = (cntP (liveP q) t) + 1 := cntP_t hp1
          have hic : (cntP (liveP q) t) < lcn q := by have := cntP_mono (liveP q) (show t + 1 ≤ cn q 1 by omega); rw [ec] at this; exact this
          have hlt9 : lti q (cntP (liveP q) t) = t := lvt_of ht hp1
          have ef := MS_f (bI_e0 c96)
          rw [hlt9] at ef
          refine v_aload_n C 0 rfl rfl dX5_process_99 ?_
          refine v_iload_n C 3 rfl rfl dX5_process_100 ?_
          refine v_bipush C 6 (by decide) dX5_process_101 ?_
          refine v_aload_n C 0 rfl rfl dX5_process_103 ?_
          refine v_iload_n C 3 rfl rfl dX5_process_104 ?_
          refine v_bipush C 6 (by decide) dX5_process_105 ?_
          refine v_callVi C (st := [.int 6, .int (nI t), .ref (am 0)]) [.int (nI t), .int 6] (c_X5_of l T am (cn (MS q (cntP (liveP q) t)) 1) t 6 (by have := ((hP).1).hn; have := htp; omega) (by omega) (hP).1) ml_RX5_74 mi_yX5_of (hP).1.k0 (by decide) (by decide +kernel) rfl (Nat.le_of_ble_eq_true rfl) (Nat.le_of_ble_eq_true rfl) (Nat.le_of_ble_eq_true rfl) (by show k0 + 0 ≤ 36; omega) (by show n0 + 0 ≤ 21152; omega) dX5_process_107 (fun r u h => ?_) _ rfl
          obtain ⟨rfl, rfl⟩ := h
          rw [((hP).2.1).m t htp 6 (by omega)]
          refine v_iconst C 1 (by decide) dX5_process_110 ?_
          refine v_iadd C dX5_process_111 ?_
          rw [show (1 : Int32) = iO 1 from rfl, iO_add]
          refine v_callVv C (st := []) [.int (nI t), .int 6, .int (iO (zz (MS q (cntP (liveP q) t)) 3 t 6 + 1))] (c_X5_lays l T (iO (zz (MS q (cntP (liveP q) t)) 3 t 6 + 1)) am (cn (MS q (cntP (liveP q) t)) 1) t 6 (by have := ((hP).1).hn; have := htp; omega) (by omega) (hP).1) ml_RX5_158 mi_yX5_lays (hP).1.k0 (by decide) (by decide +kernel) rfl (Nat.le_of_ble_eq_true rfl) (Nat.le_of_ble_eq_true rfl) (Nat.le_of_ble_eq_true rfl) (by show k0 + 0 ≤ 36; omega) (by show n0 + 0 ≤ 21152; omega) dX5_process_112 (fun u h => ?_) _ rfl
          subst h
          have hQ1 : PZ (tI T (am 3) (9 * t + 6) (iO (zz (MS q (cntP (liveP q) t)) 3 t 6 + 1))) am q (zs (MS q (cntP (liveP q) t)) 3 t 6 (zz (MS q (cntP (liveP q) t)) 3 t 6 + 1)) := PZ.lay hP (by decide) rfl
          refine v_aload_n C 0 rfl rfl dX5_process_115 ?_
          refine v_iload_n C 3 rfl rfl dX5_process_116 ?_
          refine v_bipush C 120 (by decide) dX5_process_117 ?_
          refine v_callVv C (st := []) [.int (nI t), .int 120] (c_X5_notesP l (tI T (am 3) (9 * t + 6) (iO (zz (MS q (cntP (liveP q) t)) 3 t 6 + 1))) am q (zs (MS q (cntP (liveP q) t)) 3 t 6 (zz (MS q (cntP (liveP q) t)) 3 t 6 + 1)) hQ1 (show SGB (zs (MS q (cntP (liveP q) t)) 3 t 6 (zz (MS q (cntP (liveP q) t)) 3 t 6 + 1)) from fun t9 h9 k9 hk9 => hSm t9 h9 k9 hk9) t 120 120 rfl (by decide) htp (show cn (MS q (cntP (liveP q) t)) (100 + t) ≤ 330 by omega)) ml_RX5_162 mi_yX5_notes (hQ1).1.k0 (by decide) (by decide +kernel) rfl (Nat.le_of_ble_eq_true rfl) (Nat.le_of_ble_eq_true rfl) (Nat.le_of_ble_eq_true rfl) (by show k0 + 1 ≤ 36; omega) (by show n0 + 660 ≤ 21152; omega) dX5_process_119 (fun u1 h => ?_) _ rfl
          obtain ⟨am2, ea2, hQ2⟩ := h
          refine V.lvs (lv2 := [(0, .ref (am2 0)), (1, .int x1), (2, .int (nI (cn q 1))), (3, .int (nI t))]) (by rw [ea2]) ?_
          have hs2 : cn (ntA (zs (MS q (cntP (liveP q) t)) 3 t 6 (zz (MS q (cntP (liveP q) t)) 3 t 6 + 1)) t 120) 1 = cn (zs (MS q (cntP (liveP q) t)) 3 t 6 (zz (MS q (cntP (liveP q) t)) 3 t 6 + 1)) 1 := (QT.nt (q := (zs (MS q (cntP (liveP q) t)) 3 t 6 (zz (MS q (cntP (liveP q) t)) 3 t 6 + 1))) (t := t) (x := 120)).1 1 (by omega)
          refine v_aload_n C 0 rfl rfl dX5_process_122 ?_
          refine v_iload_n C 3 rfl rfl dX5_process_123 ?_
          refine v_bipush C 6 (by decide) dX5_process_124 ?_
          refine v_callVi C (st := []) [.int (nI t), .int 6] (c_X5_of l u1 am2 (cn (ntA (zs (MS q (cntP (liveP q) t)) 3 t 6 (zz (MS q (cntP (liveP q) t)) 3 t 6 + 1)) t 120) 1) t 6 (by have := ((hQ2).1).hn; have := (show t < cn (ntA (zs (MS q (cntP (liveP q) t)) 3 t 6 (zz (MS q (cntP (liveP q) t)) 3 t 6 + 1)) t 120) 1 by rw [hs2]; exact htp); omega) (by omega) (hQ2).1) ml_RX5_74 mi_yX5_of (hQ2).1.k0 (by decide) (by decide +kernel) rfl (Nat.le_of_ble_eq_true rfl) (Nat.le_of_ble_eq_true rfl) (Nat.le_of_ble_eq_true rfl) (by show k0 + 1 + 0 ≤ 36; omega) (by show n0 + 660 + 0 ≤ 21152; omega) dX5_process_126 (fun r u h => ?_) _ rfl
          obtain ⟨rfl, rfl⟩ := h
          rw [((hQ2).2.1).m t (show t < cn (ntA (zs (MS q (cntP (liveP q) t)) 3 t 6 (zz (MS q (cntP (liveP q) t)) 3 t 6 + 1)) t 120) 1 by rw [hs2]; exact htp) 6 (by omega)]
          rw [show zz (ntA (zs (MS q (cntP (liveP q) t)) 3 t 6 (zz (MS q (cntP (liveP q) t)) 3 t 6 + 1)) t 120) 3 t 6 = zz (MS q (cntP (liveP q) t)) 3 t 6 + 1 from by rw [zz_nt3, zz_zs, if_pos ⟨rfl, rfl, rfl⟩]]
          refine v_aload_n C 0 rfl rfl dX5_process_129 ?_
          refine v_getI C (iO (zz (ntA (zs (MS q (cntP (liveP q) t)) 3 t 6 (zz (MS q (cntP (liveP q) t)) 3 t 6 + 1)) t 120) 0 0 3)) fl_RX5_47 (hQ2).1.k0 (hQ2).2.1.v54 dX5_process_130 ?_
          refine v_icmp_lt C 151 (by decide) dX5_process_133 (fun c133 => ?_) (fun c133 => ?_)
          · refine v_iinc C (nI (t + 1)) 3 [(3, .int (nI (t + 1))), (0, .ref (am2 0)), (1, .int x1), (2, .int (nI (cn q 1)))] rfl (by rw [← nI_1]; rfl) (by decide) rfl dX5_process_151 ?_
            refine v_goto C 78 (by decide) dX5_process_154 ?_
            have eA : mssA (MS q (cntP (liveP q) t)) t = (ntA (zs (MS q (cntP (liveP q) t)) 3 t 6 (zz (MS q (cntP (liveP q) t)) 3 t 6 + 1)) t 120) := by unfold mssA; dsimp only; rw [if_pos (show iO (zz (MS q (cntP (liveP q) t)) 3 t 6) + 1 < iO (zz (MS q (cntP (liveP q) t)) 0 0 3) from (iO_add (zz (MS q (cntP (liveP q) t)) 3 t 6) 1).symm ▸ c133)]
            refine V.sub [1, 2, 3, 0] rfl ?_
            refine V.lvs (lv2 := [(0, .ref (am 0)), (1, .int x1), (2, .int (nI (cn q 1))), (3, .int (nI (t + 1)))]) (by rw [ea2]; rfl) ?_
            exact ih (t + 1) u1 am2 (k0 + 1) (n0 + 660) (by omega) ht ea2 (by rw [ec, ef, eA]; exact hQ2) ⟨by omega, by omega⟩
          · refine v_aload_n C 0 rfl rfl dX5_process_136 ?_
            refine v_iload_n C 3 rfl rfl dX5_process_137 ?_
            refine v_bipush C 7 (by decide) dX5_process_138 ?_
            refine v_iconst C 1 (by decide) dX5_process_140 ?_
            refine v_callVv C (st := []) [.int (nI t), .int 7, .int 1] (c_X5_lays l u1 1 am2 (cn (ntA (zs (MS q (cntP (liveP q) t)) 3 t 6 (zz (MS q (cntP (liveP q) t)) 3 t 6 + 1)) t 120) 1) t 7 (by have := ((hQ2).1).hn; have := (show t < cn (ntA (zs (MS q (cntP (liveP q) t)) 3 t 6 (zz (MS q (cntP (liveP q) t)) 3 t 6 + 1)) t 120) 1 by rw [hs2]; exact htp); omega) (by omega) (hQ2).1) ml_RX5_158 mi_yX5_lays (hQ2).1.k0 (by decide) (by decide +kernel) rfl (Nat.le_of_ble_eq_true rfl) (Nat.le_of_ble_eq_true rfl) (Nat.le_of_ble_eq_true rfl) (by show k0 + 1 + 0 ≤ 36; omega) (by show n0 + 660 + 0 ≤ 21152; omega) dX5_process_141 (fun u h => ?_) _ rfl
            subst h
            have hQ3 : PZ (tI u1 (am2 3) (9 * t + 7) 1) am2 q (zs (ntA (zs (MS q (cntP (liveP q) t)) 3 t 6 (zz (MS q (cntP (liveP q) t)) 3 t 6 + 1)) t 120) 3 t 7 1) := PZ.lay hQ2 (by decide) rfl
            refine v_aload_n C 0 rfl rfl dX5_process_144 ?_
            refine v_iload_n C 3 rfl rfl dX5_process_145 ?_
            refine v_bipush C 108 (by decide) dX5_process_146 ?_
            refine v_callVv C (st := []) [.int (nI t), .int 108] (c_X5_notesP l (tI u1 (am2 3) (9 * t + 7) 1) am2 q (zs (ntA (zs (MS q (cntP (liveP q) t)) 3 t 6 (zz (MS q (cntP (liveP q) t)) 3 t 6 + 1)) t 120) 3 t 7 1) hQ3 (show SGB (zs (ntA (zs (MS q (cntP (liveP q) t)) 3 t 6 (zz (MS q (cntP (liveP q) t)) 3 t 6 + 1)) t 120) 3 t 7 1) from fun t9 h9 k9 hk9 => SGB.nt (q := (zs (MS q (cntP (liveP q) t)) 3 t 6 (zz (MS q (cntP (liveP q) t)) 3 t 6 + 1))) (show SGB (zs (MS q (cntP (liveP q) t)) 3 t 6 (zz (MS q (cntP (liveP q) t)) 3 t 6 + 1)) from fun t9 h9 k9 hk9 => hSm t9 h9 k9 hk9) (by unfold bd; omega) t9 h9 k9 hk9) t 108 108 rfl (by decide) (show t < cn (ntA (zs (MS q (cntP (liveP q) t)) 3 t 6 (zz (MS q (cntP (liveP q) t)) 3 t 6 + 1)) t 120) 1 by rw [hs2]; exact htp) (show cn (ntA (zs (MS q (cntP (liveP q) t)) 3 t 6 (zz (MS q (cntP (liveP q) t)) 3 t 6 + 1)) t 120) (100 + t) ≤ 330 from by rw [cn_nt1]; show cn (MS q (cntP (liveP q) t)) (100 + t) + 1 ≤ 330; omega)) ml_RX5_162 mi_yX5_notes (hQ3).1.k0 (by decide) (by decide +kernel) rfl (Nat.le_of_ble_eq_true rfl) (Nat.le_of_ble_eq_true rfl) (Nat.le_of_ble_eq_true rfl) (by show k0 + 1 + 1 ≤ 36; omega) (by show n0 + 660 + 660 ≤ 21152; omega) dX5_process_148 (fun u2 h => ?_) _ rfl
            obtain ⟨am4, ea4, hQ4⟩ := h
            refine V.lvs (lv2 := [(0, .ref (am4 0)), (1, .int x1), (2, .int (nI (cn q 1))), (3, .int (nI t))]) (by rw [ea4]) ?_
            have hs4 : cn (ntA (zs (ntA (zs (MS q (cntP (liveP q) t)) 3 t 6 (zz (MS q (cntP (liveP q) t)) 3 t 6 + 1)) t 120) 3 t 7 1) t 108) 1 = cn (zs (ntA (zs (MS q (cntP (liveP q) t)) 3 t 6 (zz (MS q (cntP (liveP q) t)) 3 t 6 + 1)) t 120) 3 t 7 1) 1 := (QT.nt (q := (zs (ntA (zs (MS q (cntP (liveP q) t)) 3 t 6 (zz (MS q (cntP (liveP q) t)) 3 t 6 + 1)) t 120) 3 t 7 1)) (t := t) (x := 108)).1 1 (by omega)
            refine v_iinc C (nI (t + 1)) 3 [(3, .int (nI (t + 1))), (0, .ref (am4 0)), (1, .int x1), (2, .int (nI (cn q 1)))] rfl (by rw [← nI_1]; rfl) (by decide) rfl dX5_process_151 ?_
            refine v_goto C 78 (by decide) dX5_process_154 ?_
            have eA : mssA (MS q (cntP (liveP q) t)) t = ntA (zs (ntA (zs (MS q (cntP (liveP q) t)) 3 t 6 (zz (MS q (cntP (liveP q) t)) 3 t 6 + 1)) t 120) 3 t 7 1) t 108 := by unfold mssA; dsimp only; rw [if_neg (show ¬ iO (zz (MS q (cntP (liveP q) t)) 3 t 6) + 1 < iO (zz (MS q (cntP (liveP q) t)) 0 0 3) from fun z => c133 ((iO_add (zz (MS q (cntP (liveP q) t)) 3 t 6) 1) ▸ z))]
            refine V.sub [1, 2, 3, 0] rfl ?_
            refine V.lvs (lv2 := [(0, .ref (am 0)), (1, .int x1), (2, .int (nI (cn q 1))), (3, .int (nI (t + 1)))]) (by rw [ea4, ea2]; rfl) ?_
            exact ih (t + 1) u2 am4 (k0 + 1 + 1) (n0 + 660 + 660) (by omega) ht (ea4.trans ea2) (by rw [ec, ef, eA]; exact hQ4) ⟨by omega, by omega⟩
