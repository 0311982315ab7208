def isSgn (x : Int32) : Prop := x = 110 ∨ x = 104 ∨ x = 120 ∨ x = 108 ∨ x = 109 ∨ x = 103
set_option maxRecDepth 100000 in
set_option maxHeartbeats 4000000 in
theorem c_X5_countOf (l : Launch) (S : HS) (am : AM) (q : AS) (hB : BI q) (hA : NA S am (cn q 1)) (hV : NV S am q) (x : Int32)  : cM l yX5_countOf cX5_countOf 3 (Option.some Jvm.ClassFile.FieldType.int) 8 [.ref (am 0), .int x] S (pI fun r u => (isSgn x ∧ FrN S u am ∧ hI u 61 (am 0) = 0 ∧ nI (sgc q x (cn q 1)) = r) ∨ (¬ isSgn x ∧ FrN S u am ∧ hI u 61 (am 0) = 1)) 0 0 := by
  refine cM_intro (by decide +kernel) cd_X5_countOf (Nat.le_of_ble_eq_true rfl) ?_
  intro pP eE sS mM aA bB tT cC G A C hRT hin
  refine V.lvs (lv2 := [(0, .ref (am 0)), (1, .int x)]) rfl ?_
  refine v_iload_n C 1 rfl rfl dX5_countOf_0 ?_
  refine v_bipush C 110 (by decide) dX5_countOf_1 ?_
  refine v_icmp_eq C 36 (by decide) dX5_countOf_3 (fun c3 => ?_) (fun c3 => ?_)
  · refine v_iconst C 1 (by decide) dX5_countOf_36 ?_
    refine v_goto C 41 (by decide) dX5_countOf_37 ?_
    refine v_istore_n C [(2, .int 1), (0, .ref (am 0)), (1, .int x)] (by decide) rfl rfl dX5_countOf_41 ?_
    refine v_aload_n C 1 rfl rfl dX5_countOf_42 ?_
    refine v_iload_n C 0 rfl rfl dX5_countOf_43 ?_
    refine v_if_eq C 51 (by decide) dX5_countOf_44 (fun q => absurd q (by decide)) (fun _ => ?_)
    refine v_iconst C 0 (by decide) dX5_countOf_47 ?_
    refine v_goto C 52 (by decide) dX5_countOf_48 ?_
    refine v_putI C fl_RX5_62 hA.k0 rfl rfl dX5_countOf_52 ?_
    refine v_aload_n C 1 rfl rfl dX5_countOf_55 ?_
    refine v_getI C 0 fl_RX5_62 hA.k0 hI_sI1 dX5_countOf_56 ?_
    refine v_if_ne C 70 (by decide) dX5_countOf_59 (fun q => absurd (by decide) q) (fun _ => ?_)
    refine v_aload_n C 1 rfl rfl dX5_countOf_62 ?_
    refine v_iload_n C 2 rfl rfl dX5_countOf_63 ?_
    refine v_callVi C (st := []) [.int x] (c_X5_count l (sI S 61 (am 0) 0) am q hB ((FrN.I (v := 0)).toA hA) ((FrN.I (v := 0)).toV hA hV) x) ml_RX5_219 mi_yX5_count hA.k0 (by decide) (by decide +kernel) rfl (Nat.le_of_ble_eq_true rfl) (Nat.le_of_ble_eq_true rfl) (Nat.le_of_ble_eq_true rfl) (Nat.le_of_ble_eq_true rfl) (Nat.le_of_ble_eq_true rfl) dX5_countOf_64 (fun r u h => ?_) _ rfl
    obtain ⟨rfl, rfl⟩ := h
    refine v_goto C 71 (by decide) dX5_countOf_67 ?_
    exact v_iret C hRT (Nat.le_of_ble_eq_true rfl) (Nat.le_of_ble_eq_true rfl) dX5_countOf_71 ⟨_, rfl, Or.inl ⟨Or.inl c3, FrN.I, hI_sI1, rfl⟩⟩
  · refine v_iload_n C 1 rfl rfl dX5_countOf_6 ?_
    refine v_bipush C 104 (by decide) dX5_countOf_7 ?_
    refine v_icmp_eq C 36 (by decide) dX5_countOf_9 (fun c9 => ?_) (fun c9 => ?_)
    · refine v_iconst C 1 (by decide) dX5_countOf_36 ?_
      refine v_goto C 41 (by decide) dX5_countOf_37 ?_
      refine v_istore_n C [(2, .int 1), (0, .ref (am 0)), (1, .int x)] (by decide) rfl rfl dX5_countOf_41 ?_
      refine v_aload_n C 1 rfl rfl dX5_countOf_42 ?_
      refine v_iload_n C 0 rfl rfl dX5_countOf_43 ?_
      refine v_if_eq C 51 (by decide) dX5_countOf_44 (fun q => absurd q (by decide)) (fun _ => ?_)
      refine v_iconst C 0 (by decide) dX5_countOf_47 ?_
      refine v_goto C 52 (by decide) dX5_countOf_48 ?_
      refine v_putI C fl_RX5_62 hA.k0 rfl rfl dX5_countOf_52 ?_
      refine v_aload_n C 1 rfl rfl dX5_countOf_55 ?_
      refine v_getI C 0 fl_RX5_62 hA.k0 hI_sI1 dX5_countOf_56 ?_
      refine v_if_ne C 70 (by decide) dX5_countOf_59 (fun q => absurd (by decide) q) (fun _ => ?_)
      refine v_aload_n C 1 rfl rfl dX5_countOf_62 ?_
      refine v_iload_n C 2 rfl rfl dX5_countOf_63 ?_
      refine v_callVi C (st := []) [.int x] (c_X5_count l (sI S 61 (am 0) 0) am q hB ((FrN.I (v := 0)).toA hA) ((FrN.I (v := 0)).toV hA hV) x) ml_RX5_219 mi_yX5_count hA.k0 (by decide) (by decide +kernel) rfl (Nat.le_of_ble_eq_true rfl) (Nat.le_of_ble_eq_true rfl) (Nat.le_of_ble_eq_true rfl) (Nat.le_of_ble_eq_true rfl) (Nat.le_of_ble_eq_true rfl) dX5_countOf_64 (fun r u h => ?_) _ rfl
      obtain ⟨rfl, rfl⟩ := h
      refine v_goto C 71 (by decide) dX5_countOf_67 ?_
      exact v_iret C hRT (Nat.le_of_ble_eq_true rfl) (Nat.le_of_ble_eq_true rfl) dX5_countOf_71 ⟨_, rfl, Or.inl ⟨Or.inr (Or.inl c9), FrN.I, hI_sI1, rfl⟩⟩
    · refine v_iload_n C 1 rfl rfl dX5_countOf_12 ?_
      refine v_bipush C 120 (by decide) dX5_countOf_13 ?_
      refine v_icmp_eq C 36 (by decide) dX5_countOf_15 (fun c15 => ?_) (fun c15 => ?_)
      · refine v_iconst C 1 (by decide) dX5_countOf_36 ?_
        refine v_goto C 41 (by decide) dX5_countOf_37 ?_
        refine v_istore_n C [(2, .int 1), (0, .ref (am 0)), (1, .int x)] (by decide) rfl rfl dX5_countOf_41 ?_
        refine v_aload_n C 1 rfl rfl dX5_countOf_42 ?_
        refine v_iload_n C 0 rfl rfl dX5_countOf_43 ?_
        refine v_if_eq C 51 (by decide) dX5_countOf_44 (fun q => absurd q (by decide)) (fun _ => ?_)
        refine v_iconst C 0 (by decide) dX5_countOf_47 ?_
        refine v_goto C 52 (by decide) dX5_countOf_48 ?_
        refine v_putI C fl_RX5_62 hA.k0 rfl rfl dX5_countOf_52 ?_
        refine v_aload_n C 1 rfl rfl dX5_countOf_55 ?_
        refine v_getI C 0 fl_RX5_62 hA.k0 hI_sI1 dX5_countOf_56 ?_
        refine v_if_ne C 70 (by decide) dX5_countOf_59 (fun q => absurd (by decide) q) (fun _ => ?_)
        refine v_aload_n C 1 rfl rfl dX5_countOf_62 ?_
        refine v_iload_n C 2 rfl rfl dX5_countOf_63 ?_
        refine v_callVi C (st := []) [.int x] (c_X5_count l (sI S 61 (am 0) 0) am q hB ((FrN.I (v := 0)).toA hA) ((FrN.I (v := 0)).toV hA hV) x) ml_RX5_219 mi_yX5_count hA.k0 (by decide) (by decide +kernel) rfl (Nat.le_of_ble_eq_true rfl) (Nat.le_of_ble_eq_true rfl) (Nat.le_of_ble_eq_true rfl) (Nat.le_of_ble_eq_true rfl) (Nat.le_of_ble_eq_true rfl) dX5_countOf_64 (fun r u h => ?_) _ rfl
        obtain ⟨rfl, rfl⟩ := h
        refine v_goto C 71 (by decide) dX5_countOf_67 ?_
        exact v_iret C hRT (Nat.le_of_ble_eq_true rfl) (Nat.le_of_ble_eq_true rfl) dX5_countOf_71 ⟨_, rfl, Or.inl ⟨Or.inr (Or.inr (Or.inl c15)), FrN.I, hI_sI1, rfl⟩⟩
      · refine v_iload_n C 1 rfl rfl dX5_countOf_18 ?_
        refine v_bipush C 108 (by decide) dX5_countOf_19 ?_
        refine v_icmp_eq C 36 (by decide) dX5_countOf_21 (fun c21 => ?_) (fun c21 => ?_)
        · refine v_iconst C 1 (by decide) dX5_countOf_36 ?_
          refine v_goto C 41 (by decide) dX5_countOf_37 ?_
          refine v_istore_n C [(2, .int 1), (0, .ref (am 0)), (1, .int x)] (by decide) rfl rfl dX5_countOf_41 ?_
          refine v_aload_n C 1 rfl rfl dX5_countOf_42 ?_
          refine v_iload_n C 0 rfl rfl dX5_countOf_43 ?_
          refine v_if_eq C 51 (by decide) dX5_countOf_44 (fun q => absurd q (by decide)) (fun _ => ?_)
          refine v_iconst C 0 (by decide) dX5_countOf_47 ?_
          refine v_goto C 52 (by decide) dX5_countOf_48 ?_
          refine v_putI C fl_RX5_62 hA.k0 rfl rfl dX5_countOf_52 ?_
          refine v_aload_n C 1 rfl rfl dX5_countOf_55 ?_
          refine v_getI C 0 fl_RX5_62 hA.k0 hI_sI1 dX5_countOf_56 ?_
          refine v_if_ne C 70 (by decide) dX5_countOf_59 (fun q => absurd (by decide) q) (fun _ => ?_)
          refine v_aload_n C 1 rfl rfl dX5_countOf_62 ?_
          refine v_iload_n C 2 rfl rfl dX5_countOf_63 ?_
          refine v_callVi C (st := []) [.int x] (c_X5_count l (sI S 61 (am 0) 0) am q hB ((FrN.I (v := 0)).toA hA) ((FrN.I (v := 0)).toV hA hV) x) ml_RX5_219 mi_yX5_count hA.k0 (by decide) (by decide +kernel) rfl (Nat.le_of_ble_eq_true rfl) (Nat.le_of_ble_eq_true rfl) (Nat.le_of_ble_eq_true rfl) (Nat.le_of_ble_eq_true rfl) (Nat.le_of_ble_eq_true rfl) dX5_countOf_64 (fun r u h => ?_) _ rfl
          obtain ⟨rfl, rfl⟩ := h
          refine v_goto C 71 (by decide) dX5_countOf_67 ?_
          exact v_iret C hRT (Nat.le_of_ble_eq_true rfl) (Nat.le_of_ble_eq_true rfl) dX5_countOf_71 ⟨_, rfl, Or.inl ⟨Or.inr (Or.inr (Or.inr (Or.inl c21))), FrN.I, hI_sI1, rfl⟩⟩
        · refine v_iload_n C 1 rfl rfl dX5_countOf_24 ?_
          refine v_bipush C 109 (by decide) dX5_countOf_25 ?_
          refine v_icmp_eq C 36 (by decide) dX5_countOf_27 (fun c27 => ?_) (fun c27 => ?_)
          · refine v_iconst C 1 (by decide) dX5_countOf_36 ?_
            refine v_goto C 41 (by decide) dX5_countOf_37 ?_
            refine v_istore_n C [(2, .int 1), (0, .ref (am 0)), (1, .int x)] (by decide) rfl rfl dX5_countOf_41 ?_
            refine v_aload_n C 1 rfl rfl dX5_countOf_42 ?_
            refine v_iload_n C 0 rfl rfl dX5_countOf_43 ?_
            refine v_if_eq C 51 (by decide) dX5_countOf_44 (fun q => absurd q (by decide)) (fun _ => ?_)
            refine v_iconst C 0 (by decide) dX5_countOf_47 ?_
            refine v_goto C 52 (by decide) dX5_countOf_48 ?_
            refine v_putI C fl_RX5_62 hA.k0 rfl rfl dX5_countOf_52 ?_
            refine v_aload_n C 1 rfl rfl dX5_countOf_55 ?_
            refine v_getI C 0 fl_RX5_62 hA.k0 hI_sI1 dX5_countOf_56 ?_
            refine v_if_ne C 70 (by decide) dX5_countOf_59 (fun q => absurd (by decide) q) (fun _ => ?_)
            refine v_aload_n C 1 rfl rfl dX5_countOf_62 ?_
            refine v_iload_n C 2 rfl rfl dX5_countOf_63 ?_
            refine v_callVi C (st := []) [.int x] (c_X5_count l (sI S 61 (am 0) 0) am q hB ((FrN.I (v := 0)).toA hA) ((FrN.I (v := 0)).toV hA hV) x) ml_RX5_219 mi_yX5_count hA.k0 (by decide) (by decide +kernel) rfl (Nat.le_of_ble_eq_true rfl) (Nat.le_of_ble_eq_true rfl) (Nat.le_of_ble_eq_true rfl) (Nat.le_of_ble_eq_true rfl) (Nat.le_of_ble_eq_true rfl) dX5_countOf_64 (fun r u h => ?_) _ rfl
            obtain ⟨rfl, rfl⟩ := h
            refine v_goto C 71 (by decide) dX5_countOf_67 ?_
            exact v_iret C hRT (Nat.le_of_ble_eq_true rfl) (Nat.le_of_ble_eq_true rfl) dX5_countOf_71 ⟨_, rfl, Or.inl ⟨Or.inr (Or.inr (Or.inr (Or.inr (Or.inl c27)))), FrN.I, hI_sI1, rfl⟩⟩
          · refine v_iload_n C 1 rfl rfl dX5_countOf_30 ?_
            refine v_bipush C 103 (by decide) dX5_countOf_31 ?_
            refine v_icmp_ne C 40 (by decide) dX5_countOf_33 (fun c33 => ?_) (fun c33 => ?_)
            · refine v_iconst C 0 (by decide) dX5_countOf_40 ?_
              refine v_istore_n C [(2, .int 0), (0, .ref (am 0)), (1, .int x)] (by decide) rfl rfl dX5_countOf_41 ?_
              refine v_aload_n C 1 rfl rfl dX5_countOf_42 ?_
              refine v_iload_n C 0 rfl rfl dX5_countOf_43 ?_
              refine v_if_eq C 51 (by decide) dX5_countOf_44 (fun _ => ?_) (fun q => absurd (by decide) q)
              refine v_iconst C 1 (by decide) dX5_countOf_51 ?_
              refine v_putI C fl_RX5_62 hA.k0 rfl rfl dX5_countOf_52 ?_
              refine v_aload_n C 1 rfl rfl dX5_countOf_55 ?_
              refine v_getI C 1 fl_RX5_62 hA.k0 hI_sI1 dX5_countOf_56 ?_
              refine v_if_ne C 70 (by decide) dX5_countOf_59 (fun _ => ?_) (fun q => absurd q (by decide))
              refine v_iconst C (-1) (by decide) dX5_countOf_70 ?_
              exact v_iret C hRT (Nat.le_of_ble_eq_true rfl) (Nat.le_of_ble_eq_true rfl) dX5_countOf_71 ⟨_, rfl, Or.inr ⟨fun z => by rcases z with z | z | z | z | z | z; exact c3 z; exact c9 z; exact c15 z; exact c21 z; exact c27 z; exact c33 z, FrN.I, hI_sI1⟩⟩
            · refine v_iconst C 1 (by decide) dX5_countOf_36 ?_
              refine v_goto C 41 (by decide) dX5_countOf_37 ?_
              refine v_istore_n C [(2, .int 1), (0, .ref (am 0)), (1, .int x)] (by decide) rfl rfl dX5_countOf_41 ?_
              refine v_aload_n C 1 rfl rfl dX5_countOf_42 ?_
              refine v_iload_n C 0 rfl rfl dX5_countOf_43 ?_
              refine v_if_eq C 51 (by decide) dX5_countOf_44 (fun q => absurd q (by decide)) (fun _ => ?_)
              refine v_iconst C 0 (by decide) dX5_countOf_47 ?_
              refine v_goto C 52 (by decide) dX5_countOf_48 ?_
              refine v_putI C fl_RX5_62 hA.k0 rfl rfl dX5_countOf_52 ?_
              refine v_aload_n C 1 rfl rfl dX5_countOf_55 ?_
              refine v_getI C 0 fl_RX5_62 hA.k0 hI_sI1 dX5_countOf_56 ?_
              refine v_if_ne C 70 (by decide) dX5_countOf_59 (fun q => absurd (by decide) q) (fun _ => ?_)
              refine v_aload_n C 1 rfl rfl dX5_countOf_62 ?_
              refine v_iload_n C 2 rfl rfl dX5_countOf_63 ?_
              refine v_callVi C (st := []) [.int x] (c_X5_count l (sI S 61 (am 0) 0) am q hB ((FrN.I (v := 0)).toA hA) ((FrN.I (v := 0)).toV hA hV) x) ml_RX5_219 mi_yX5_count hA.k0 (by decide) (by decide +kernel) rfl (Nat.le_of_ble_eq_true rfl) (Nat.le_of_ble_eq_true rfl) (Nat.le_of_ble_eq_true rfl) (Nat.le_of_ble_eq_true rfl) (Nat.le_of_ble_eq_true rfl) dX5_countOf_64 (fun r u h => ?_) _ rfl
              obtain ⟨rfl, rfl⟩ := h
              refine v_goto C 71 (by decide) dX5_countOf_67 ?_
              exact v_iret C hRT (Nat.le_of_ble_eq_true rfl) (Nat.le_of_ble_eq_true rfl) dX5_countOf_71 ⟨_, rfl, Or.inl ⟨Or.inr (Or.inr (Or.inr (Or.inr (Or.inr c33)))), FrN.I, hI_sI1, rfl⟩⟩
