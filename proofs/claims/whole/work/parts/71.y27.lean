set_option maxRecDepth 100000 in
set_option maxHeartbeats 4000000 in
theorem c_X4_isSign (l : Launch) (S : HS) (x : Int32) : cM l yX4_isSign cX4_isSign 1 (Option.some Jvm.ClassFile.FieldType.boolean) 2 [.int x] S (pI fun r u => bI (x = 110 ∨ x = 104 ∨ x = 120 ∨ x = 108 ∨ x = 109 ∨ x = 103) = r ∧ S = u) 0 0 := by
  refine cM_intro (by decide +kernel) cd_X4_isSign (Nat.le_of_ble_eq_true rfl) ?_
  intro pP eE sS mM aA bB tT cC G A C hRT hin
  refine V.lvs (lv2 := [(0, .int x)]) rfl ?_
  refine v_iload_n C 0 rfl rfl dX4_isSign_0 ?_
  refine v_bipush C 110 (by decide) dX4_isSign_1 ?_
  refine v_icmp_eq C 36 (by decide) dX4_isSign_3 (fun c3 => ?_) (fun c3 => ?_)
  · refine v_iconst C 1 (by decide) dX4_isSign_36 ?_
    refine v_goto C 41 (by decide) dX4_isSign_37 ?_
    exact v_zret C rfl hRT (Nat.le_of_ble_eq_true rfl) (Nat.le_of_ble_eq_true rfl) dX4_isSign_41 ⟨_, rfl, bI1 (Or.inl c3), rfl⟩
  · refine v_iload_n C 0 rfl rfl dX4_isSign_6 ?_
    refine v_bipush C 104 (by decide) dX4_isSign_7 ?_
    refine v_icmp_eq C 36 (by decide) dX4_isSign_9 (fun c9 => ?_) (fun c9 => ?_)
    · refine v_iconst C 1 (by decide) dX4_isSign_36 ?_
      refine v_goto C 41 (by decide) dX4_isSign_37 ?_
      exact v_zret C rfl hRT (Nat.le_of_ble_eq_true rfl) (Nat.le_of_ble_eq_true rfl) dX4_isSign_41 ⟨_, rfl, bI1 (Or.inr (Or.inl c9)), rfl⟩
    · refine v_iload_n C 0 rfl rfl dX4_isSign_12 ?_
      refine v_bipush C 120 (by decide) dX4_isSign_13 ?_
      refine v_icmp_eq C 36 (by decide) dX4_isSign_15 (fun c15 => ?_) (fun c15 => ?_)
      · refine v_iconst C 1 (by decide) dX4_isSign_36 ?_
        refine v_goto C 41 (by decide) dX4_isSign_37 ?_
        exact v_zret C rfl hRT (Nat.le_of_ble_eq_true rfl) (Nat.le_of_ble_eq_true rfl) dX4_isSign_41 ⟨_, rfl, bI1 (Or.inr (Or.inr (Or.inl c15))), rfl⟩
      · refine v_iload_n C 0 rfl rfl dX4_isSign_18 ?_
        refine v_bipush C 108 (by decide) dX4_isSign_19 ?_
        refine v_icmp_eq C 36 (by decide) dX4_isSign_21 (fun c21 => ?_) (fun c21 => ?_)
        · refine v_iconst C 1 (by decide) dX4_isSign_36 ?_
          refine v_goto C 41 (by decide) dX4_isSign_37 ?_
          exact v_zret C rfl hRT (Nat.le_of_ble_eq_true rfl) (Nat.le_of_ble_eq_true rfl) dX4_isSign_41 ⟨_, rfl, bI1 (Or.inr (Or.inr (Or.inr (Or.inl c21)))), rfl⟩
        · refine v_iload_n C 0 rfl rfl dX4_isSign_24 ?_
          refine v_bipush C 109 (by decide) dX4_isSign_25 ?_
          refine v_icmp_eq C 36 (by decide) dX4_isSign_27 (fun c27 => ?_) (fun c27 => ?_)
          · refine v_iconst C 1 (by decide) dX4_isSign_36 ?_
            refine v_goto C 41 (by decide) dX4_isSign_37 ?_
            exact v_zret C rfl hRT (Nat.le_of_ble_eq_true rfl) (Nat.le_of_ble_eq_true rfl) dX4_isSign_41 ⟨_, rfl, bI1 (Or.inr (Or.inr (Or.inr (Or.inr (Or.inl c27))))), rfl⟩
          · refine v_iload_n C 0 rfl rfl dX4_isSign_30 ?_
            refine v_bipush C 103 (by decide) dX4_isSign_31 ?_
            refine v_icmp_ne C 40 (by decide) dX4_isSign_33 (fun c33 => ?_) (fun c33 => ?_)
            · refine v_iconst C 0 (by decide) dX4_isSign_40 ?_
              exact v_zret C rfl hRT (Nat.le_of_ble_eq_true rfl) (Nat.le_of_ble_eq_true rfl) dX4_isSign_41 ⟨_, rfl, bI0 (fun z => by rcases z with z | z | z | z | z | z; exact c3 z; exact c9 z; exact c15 z; exact c21 z; exact c27 z; exact c33 z), rfl⟩
            · refine v_iconst C 1 (by decide) dX4_isSign_36 ?_
              refine v_goto C 41 (by decide) dX4_isSign_37 ?_
              exact v_zret C rfl hRT (Nat.le_of_ble_eq_true rfl) (Nat.le_of_ble_eq_true rfl) dX4_isSign_41 ⟨_, rfl, bI1 (Or.inr (Or.inr (Or.inr (Or.inr (Or.inr (c33)))))), rfl⟩
set_option maxRecDepth 100000 in
set_option maxHeartbeats 4000000 in
theorem c_X4_countOf (l : Launch) (hlf : l.stackTraces = false) (S : HS) (ad : AD) (q : AS) (hB : BI q) (hA : XA S ad (cn q 1)) (hV : XV S ad q) (x : Int32) : cX l yX4_countOf cX4_countOf 2 (Option.some Jvm.ClassFile.FieldType.int) 10 [.ref (ad 0 0), .int x] S (pI fun r u => isSgn x ∧ S = u ∧ nI (sgc q x (cn q 1)) = r) (fun E u => E = eIA ∧ S = u ∧ ¬ isSgn x) 1 6 := by
  refine cX_intro (by decide +kernel) cd_X4_countOf (Nat.le_of_ble_eq_true rfl) ?_
  intro pP eE sS mM aA bB tT cC G A C hRT hnt
  refine V.lvs (lv2 := [(0, .ref (ad 0 0)), (1, .int x)]) rfl ?_
  refine v_iload_n C 1 rfl rfl dX4_countOf_0 ?_
  refine v_callSi C (st := []) [.int x] (c_X4_isSign l S x) ml_RX4_337 ms_yX4_isSign rfl (Nat.le_of_ble_eq_true rfl) (Nat.le_of_ble_eq_true rfl) (Nat.le_of_ble_eq_true rfl) (Nat.le_of_ble_eq_true rfl) (Nat.le_of_ble_eq_true rfl) dX4_countOf_1 (fun r u h => ?_) _ rfl
  obtain ⟨rfl, rfl⟩ := h
  refine v_xcallSv C (st := []) [.int (bI (x = 110 ∨ x = 104 ∨ x = 120 ∨ x = 108 ∨ x = 109 ∨ x = 103))] (c_X4_refuseUnless l hlf S (bI (x = 110 ∨ x = 104 ∨ x = 120 ∨ x = 108 ∨ x = 109 ∨ x = 103))) ml_RX4_60 ms_yX4_refuseUnless rfl (Nat.le_of_ble_eq_true rfl) (Nat.le_of_ble_eq_true rfl) (Nat.le_of_ble_eq_true rfl) (Nat.le_of_ble_eq_true rfl) (Nat.le_of_ble_eq_true rfl) dX4_countOf_4 (fun E u h => ?_) (fun u h => ?_) _ rfl
  · obtain ⟨rfl, rfl, hx⟩ := h
    exact vx_end C hnt (Nat.le_of_ble_eq_true rfl) (Nat.le_of_ble_eq_true rfl) ⟨rfl, rfl, fun z => bI_e0 hx z⟩
  obtain ⟨rfl, hok⟩ := h
  have hys : (x = 110 ∨ x = 104 ∨ x = 120 ∨ x = 108 ∨ x = 109 ∨ x = 103) := bI_n0 hok
  refine v_aload_n C 0 rfl rfl dX4_countOf_7 ?_
  refine v_iload_n C 1 rfl rfl dX4_countOf_8 ?_
  refine v_callVi C (st := []) [.int x] (c_X4_countSigns l S ad q x hA hV hB) ml_RX4_341 mi_yX4_countSigns hA.k0 (by decide) (by decide +kernel) rfl (Nat.le_of_ble_eq_true rfl) (Nat.le_of_ble_eq_true rfl) (Nat.le_of_ble_eq_true rfl) (Nat.le_of_ble_eq_true rfl) (Nat.le_of_ble_eq_true rfl) dX4_countOf_9 (fun r u h => ?_) _ rfl
  obtain ⟨rfl, rfl⟩ := h
  exact v_xiret C hRT (Nat.le_of_ble_eq_true rfl) (Nat.le_of_ble_eq_true rfl) dX4_countOf_12 ⟨_, rfl, hys, rfl, rfl⟩
