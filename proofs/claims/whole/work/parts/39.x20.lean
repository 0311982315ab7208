set_option maxRecDepth 100000 in
set_option maxHeartbeats 4000000 in
theorem c_X4_nearest (l : Launch) (hlf : l.stackTraces = false) (S : HS) (ad : AD) (q : AS) (hB : BI q) (hA : XA S ad (cn q 1)) (hV : XV S ad q) (t x y : Int32) : cX l yX4_nearest cX4_nearest 11 (Option.some Jvm.ClassFile.FieldType.int) 12 [.ref (ad 0 0), .int t, .int x, .int y] S (pI fun r u => (isAk t ∧ isPl x ∧ isPl y) ∧ ∃ b, (nst q t.toInt x.toInt y.toInt (cn q 1)) = some b ∧ S = u ∧ nI b = r) (fun E u => S = u ∧ ((E = eIA ∧ ¬ (isAk t ∧ isPl x ∧ isPl y)) ∨ (E = eNE ∧ (isAk t ∧ isPl x ∧ isPl y) ∧ (nst q t.toInt x.toInt y.toInt (cn q 1)) = none))) 2 12 := by
  refine cX_intro (by decide +kernel) cd_X4_nearest (Nat.le_of_ble_eq_true rfl) ?_
  intro pP eE sS mM aA bB tT cC G A C hRT hnt
  refine V.lvs (lv2 := [(0, .ref (ad 0 0)), (1, .int t), (2, .int x), (3, .int y)]) rfl ?_
  refine v_iload_n C 1 rfl rfl dX4_nearest_0 ?_
  refine v_callSi C (st := []) [.int t] (c_X4_isAskedTime l S t) ml_RX4_310 ms_yX4_isAskedTime rfl (Nat.le_of_ble_eq_true rfl) (Nat.le_of_ble_eq_true rfl) (Nat.le_of_ble_eq_true rfl) (Nat.le_of_ble_eq_true rfl) (Nat.le_of_ble_eq_true rfl) dX4_nearest_1 (fun r u h => ?_) _ rfl
  obtain ⟨rfl, rfl⟩ := h
  refine v_if_eq C 25 (by decide) dX4_nearest_4 (fun c4 => ?_) (fun c4 => ?_)
  · refine v_iconst C 0 (by decide) dX4_nearest_25 ?_
    refine v_xcallSv C (st := []) [.int 0] (c_X4_refuseUnless l hlf S 0) ml_RX4_60 ms_yX4_refuseUnless rfl (Nat.le_of_ble_eq_true rfl) (Nat.le_of_ble_eq_true rfl) (Nat.le_of_ble_eq_true rfl) (Nat.le_of_ble_eq_true rfl) (Nat.le_of_ble_eq_true rfl) dX4_nearest_26 (fun E u h => ?_) (fun u h => ?_) _ rfl
    · obtain ⟨rfl, rfl, hx⟩ := h
      exact vx_end C hnt (Nat.le_of_ble_eq_true rfl) (Nat.le_of_ble_eq_true rfl) ⟨rfl, Or.inl ⟨rfl, fun z => bI_e0 c4 z.1⟩⟩
    exact absurd rfl h.2
  · refine v_iload_n C 2 rfl rfl dX4_nearest_7 ?_
    refine v_callSi C (st := []) [.int x] (c_X4_isPlace l S x) ml_RX4_90 ms_yX4_isPlace rfl (Nat.le_of_ble_eq_true rfl) (Nat.le_of_ble_eq_true rfl) (Nat.le_of_ble_eq_true rfl) (Nat.le_of_ble_eq_true rfl) (Nat.le_of_ble_eq_true rfl) dX4_nearest_8 (fun r u h => ?_) _ rfl
    obtain ⟨rfl, rfl⟩ := h
    refine v_if_eq C 25 (by decide) dX4_nearest_11 (fun c11 => ?_) (fun c11 => ?_)
    · refine v_iconst C 0 (by decide) dX4_nearest_25 ?_
      refine v_xcallSv C (st := []) [.int 0] (c_X4_refuseUnless l hlf S 0) ml_RX4_60 ms_yX4_refuseUnless rfl (Nat.le_of_ble_eq_true rfl) (Nat.le_of_ble_eq_true rfl) (Nat.le_of_ble_eq_true rfl) (Nat.le_of_ble_eq_true rfl) (Nat.le_of_ble_eq_true rfl) dX4_nearest_26 (fun E u h => ?_) (fun u h => ?_) _ rfl
      · obtain ⟨rfl, rfl, hx⟩ := h
        exact vx_end C hnt (Nat.le_of_ble_eq_true rfl) (Nat.le_of_ble_eq_true rfl) ⟨rfl, Or.inl ⟨rfl, fun z => bI_e0 c11 z.2.1⟩⟩
      exact absurd rfl h.2
    · refine v_iload_n C 3 rfl rfl dX4_nearest_14 ?_
      refine v_callSi C (st := []) [.int y] (c_X4_isPlace l S y) ml_RX4_90 ms_yX4_isPlace rfl (Nat.le_of_ble_eq_true rfl) (Nat.le_of_ble_eq_true rfl) (Nat.le_of_ble_eq_true rfl) (Nat.le_of_ble_eq_true rfl) (Nat.le_of_ble_eq_true rfl) dX4_nearest_15 (fun r u h => ?_) _ rfl
      obtain ⟨rfl, rfl⟩ := h
      refine v_if_eq C 25 (by decide) dX4_nearest_18 (fun c18 => ?_) (fun c18 => ?_)
      · refine v_iconst C 0 (by decide) dX4_nearest_25 ?_
        refine v_xcallSv C (st := []) [.int 0] (c_X4_refuseUnless l hlf S 0) ml_RX4_60 ms_yX4_refuseUnless rfl (Nat.le_of_ble_eq_true rfl) (Nat.le_of_ble_eq_true rfl) (Nat.le_of_ble_eq_true rfl) (Nat.le_of_ble_eq_true rfl) (Nat.le_of_ble_eq_true rfl) dX4_nearest_26 (fun E u h => ?_) (fun u h => ?_) _ rfl
        · obtain ⟨rfl, rfl, hx⟩ := h
          exact vx_end C hnt (Nat.le_of_ble_eq_true rfl) (Nat.le_of_ble_eq_true rfl) ⟨rfl, Or.inl ⟨rfl, fun z => bI_e0 c18 z.2.2⟩⟩
        exact absurd rfl h.2
      · refine v_iconst C 1 (by decide) dX4_nearest_21 ?_
        refine v_goto C 26 (by decide) dX4_nearest_22 ?_
        refine v_xcallSv C (st := []) [.int 1] (c_X4_refuseUnless l hlf S 1) ml_RX4_60 ms_yX4_refuseUnless rfl (Nat.le_of_ble_eq_true rfl) (Nat.le_of_ble_eq_true rfl) (Nat.le_of_ble_eq_true rfl) (Nat.le_of_ble_eq_true rfl) (Nat.le_of_ble_eq_true rfl) dX4_nearest_26 (fun E u h => ?_) (fun u h => ?_) _ rfl
        · exact absurd h.2.2 (by decide)
        obtain ⟨rfl, hok⟩ := h
        refine v_iconst C (-1) (by decide) dX4_nearest_29 ?_
        refine v_istore C [(4, .int (-1)), (0, .ref (ad 0 0)), (1, .int t), (2, .int x), (3, .int y)] (by decide) rfl dX4_nearest_30 ?_
        refine v_lconst C 0 (by decide) dX4_nearest_32 ?_
        refine v_lstore C [(5, .long 0), (4, .int (-1)), (0, .ref (ad 0 0)), (1, .int t), (2, .int x), (3, .int y)] (by decide) rfl dX4_nearest_33 ?_
        refine v_iconst C 0 (by decide) dX4_nearest_35 ?_
        refine v_istore C [(7, .int 0), (5, .long 0), (4, .int (-1)), (0, .ref (ad 0 0)), (1, .int t), (2, .int x), (3, .int y)] (by decide) rfl dX4_nearest_36 ?_
        have hOK : (isAk t ∧ isPl x ∧ isPl y) := ⟨(bI_n0 c4 : ¬ t < (-9999) ∧ ¬ 39999 < t), (bI_n0 c11 : ¬ x < (-999) ∧ ¬ 999 < x), (bI_n0 c18 : ¬ y < (-999) ∧ ¬ 999 < y)⟩
        refine V.sub [3, 4, 5, 6, 2, 1, 0] rfl (lp_X4_nearest S ad q hB hA hV t x y hOK.1 hOK.2.1 hOK.2.2 (0 + 1) (0 + 6) (by decide) (by decide) C ?_ (cn q 1 + 1) 0 (by omega) (by omega))
        refine v_iload C 4 rfl dX4_nearest_115 ?_
        refine v_iconst C (-1) (by decide) dX4_nearest_117 ?_
        refine v_icmp_ne C 132 (by decide) dX4_nearest_118 (fun c118 => ?_) (fun c118 => ?_)
        · refine v_iload C 4 rfl dX4_nearest_132 ?_
          exact v_xiret C hRT (Nat.le_of_ble_eq_true rfl) (Nat.le_of_ble_eq_true rfl) dX4_nearest_134 ⟨_, rfl, hOK, by obtain ⟨b9, e9⟩ := bs_s c118; exact ⟨b9, e9, rfl, by rw [e9]; rfl⟩⟩
        · exact v_throwN C hlf tn_345 hnt (Nat.le_of_ble_eq_true rfl) (Nat.le_of_ble_eq_true rfl) (Nat.le_of_ble_eq_true rfl) (Nat.le_of_ble_eq_true rfl) (Nat.le_of_ble_eq_true rfl) (Nat.le_of_ble_eq_true rfl) (Nat.le_of_ble_eq_true rfl) ⟨rfl, Or.inr ⟨rfl, hOK, bs_n (fun b hb => by have := (nst_lt _ _ _ _ _ _ hb).1; have := hB.b1; omega) c118⟩⟩ dX4_nearest_121 dX4_nearest_124 dX4_nearest_125 dX4_nearest_128 dX4_nearest_131
