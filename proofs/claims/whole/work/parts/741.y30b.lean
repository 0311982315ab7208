theorem cl_17 : Cond.classLink RX1 17 ("[" ++ (FieldType.array FieldType.long).toString) ∈ wsG := wsG_in 84 (by decide +kernel) (by decide +kernel)
set_option maxRecDepth 100000 in
set_option maxHeartbeats 4000000 in
theorem c_X1_init (l : Launch) (S0 : HS) (x0 : Nat) (h0 : hK S0 x0 = 0) : cI l yX1_init cX1_init 1 4 [.ref x0] (nO S0 x0 2) (pV fun u => ∃ (a9 a10 a12 a13 : Nat) (r : Nat → Nat), MXF S0 u x0 a9 a10 a12 a13 r ∧ Old S0 u) 8 42 := by
  refine cI_intro (by decide +kernel) cd_X1_init (Nat.le_of_ble_eq_true rfl) ?_
  intro pP eE sS mM aA bB tT cC G A C hao hRT hin
  refine V.lvs (lv2 := [(0, .ref x0)]) rfl ?_
  refine v_aload_n C 0 rfl rfl dX1_init_0 ?_
  refine v_objInit C oi_RX1_3 (Nat.le_of_ble_eq_true rfl) (Nat.le_of_ble_eq_true rfl) (Nat.le_of_ble_eq_true rfl) dX1_init_1 ?_
  have i0 : Ini 2 S0 (nO S0 x0 2) x0 [] (fun _ => 0) := Ini.new h0
  obtain ⟨T0, hT0⟩ : ∃ Tz, Tz = nO S0 x0 2 := ⟨_, rfl⟩
  rw [← hT0]; rw [← hT0] at i0
  refine v_aload_n C 0 rfl rfl dX1_init_4 ?_
  refine v_bipush C 6 (by decide) dX1_init_5 ?_
  refine v_newq2 C 6 (Or.inr (Or.inr ⟨rfl, rfl⟩)) (wsG_in 83 (by decide +kernel) (by decide +kernel)) hao.2.2.1 (by decide) (by decide) (by decide) (by show 0 + 1 ≤ 8; omega) (by show 0 + 6 ≤ 42; omega) dX1_init_7 (fun b0 hfb0 => ?_)
  refine v_putRF C fl_RX1_11 ((hK_nA2 (ne_fresh i0.1 (by decide) hfb0)).trans i0.1) hin (by decide +kernel) rfl rfl dX1_init_10 ?_
  have i1 := i0.arr h0 (by decide) hfb0 (kd := 15) (n := 6) (f := 7) (by decide) (by simp)
  obtain ⟨T1, hT1⟩ : ∃ Tz, Tz = (sR (nA T0 b0 15 6) 7 x0 (some b0)) := ⟨_, rfl⟩
  rw [← hT1]; rw [← hT1] at i1
  refine v_aload_n C 0 rfl rfl dX1_init_13 ?_
  refine v_iconst C 4 (by decide) dX1_init_14 ?_
  refine v_bipush C 6 (by decide) dX1_init_15 ?_
  refine v_mna C cl_17 hao.2.2.2.2 ac_long (by show 0 + 1 + (1 + 4) ≤ 8; omega) (by show 0 + 6 + (4 + 24) ≤ 42; omega) dX1_init_17 (fun b1 r0 r1 r2 r3 hfb1 hr0 hr1 hr2 hr3 nd => ?_)
  obtain ⟨m1, m2, m3, m4, m5⟩ := mS_f hfb1 hr0 hr1 hr2 hr3 nd
  have hx9 : hK (mS T1 b1 r0 r1 r2 r3) x0 = 2 := (m1 x0 (by rw [i1.1]; decide)).1.trans i1.1
  refine v_putRF C fl_RX1_19 hx9 hin (by decide +kernel) rfl rfl dX1_init_21 ?_
  obtain ⟨i2, e2⟩ := i1.mul h0 (by decide) hfb1 hr0 hr1 hr2 hr3 nd (f := 8) (by simp)
  obtain ⟨T2, hT2⟩ : ∃ Tz, Tz = (sR (mS T1 b1 r0 r1 r2 r3) 8 x0 (some b1)) := ⟨_, rfl⟩
  rw [← hT2]; rw [← hT2] at i2 e2
  refine v_aload_n C 0 rfl rfl dX1_init_24 ?_
  refine v_iconst C 4 (by decide) dX1_init_25 ?_
  refine v_newa C 4 (Or.inl ⟨rfl, rfl⟩) ac_int (by decide) (by decide) (by decide) (by show 0 + 1 + 1 + 4 + 1 ≤ 8; omega) (by show 0 + 6 + 4 + 24 + 4 ≤ 42; omega) dX1_init_26 (fun b2 hfb2 => ?_)
  refine v_putRF C fl_RX1_22 ((hK_nA2 (ne_fresh i2.1 (by decide) hfb2)).trans i2.1) hin (by decide +kernel) rfl rfl dX1_init_28 ?_
  have i3 := i2.arr h0 (by decide) hfb2 (kd := 10) (n := 4) (f := 10) (by decide) (by simp)
  have e3 := e2.arr (kd := 10) (n := 4) (f := 10) (x0 := x0) (v := some b2) hfb2
  obtain ⟨T3, hT3⟩ : ∃ Tz, Tz = (sR (nA T2 b2 10 4) 10 x0 (some b2)) := ⟨_, rfl⟩
  rw [← hT3]; rw [← hT3] at i3 e3
  refine v_aload_n C 0 rfl rfl dX1_init_31 ?_
  refine v_iconst C 4 (by decide) dX1_init_32 ?_
  refine v_newa C 4 (Or.inl ⟨rfl, rfl⟩) ac_int (by decide) (by decide) (by decide) (by show 0 + 1 + 1 + 4 + 1 + 1 ≤ 8; omega) (by show 0 + 6 + 4 + 24 + 4 + 4 ≤ 42; omega) dX1_init_33 (fun b3 hfb3 => ?_)
  refine v_putRF C fl_RX1_26 ((hK_nA2 (ne_fresh i3.1 (by decide) hfb3)).trans i3.1) hin (by decide +kernel) rfl rfl dX1_init_35 ?_
  have i4 := i3.arr h0 (by decide) hfb3 (kd := 10) (n := 4) (f := 11) (by decide) (by simp)
  have e4 := e3.arr (kd := 10) (n := 4) (f := 11) (x0 := x0) (v := some b3) hfb3
  obtain ⟨T4, hT4⟩ : ∃ Tz, Tz = (sR (nA T3 b3 10 4) 11 x0 (some b3)) := ⟨_, rfl⟩
  rw [← hT4]; rw [← hT4] at i4 e4
  exact v_vret C hRT (Nat.le_of_ble_eq_true rfl) (Nat.le_of_ble_eq_true rfl) dX1_init_38 (by have nd4 : [b3, b2, b1, b0].Nodup := i4.2.2.2.1; have n12 : b2 ≠ b3 := fun z => absurd (nd_inj (i := 1) (j := 0) nd4 (by show 1 < 4; decide) (by show 0 < 4; decide) z) (by decide); exact ⟨rfl, b0, b1, b2, b3, r4 r0 r1 r2 r3, ⟨i4.1, (i4.2.2.1 _ (List.mem_of_getElem? (i := 3) rfl)).1, (i4.2.2.1 _ (List.mem_of_getElem? (i := 2) rfl)).1, (i4.2.2.1 _ (List.mem_of_getElem? (i := 1) rfl)).1, (i4.2.2.1 _ (List.mem_of_getElem? (i := 0) rfl)).1, (i4.2.2.1 _ (List.mem_of_getElem? (i := 3) rfl)).2.1, (i4.2.2.1 _ (List.mem_of_getElem? (i := 3) rfl)).2.2.2.2.1, e4, (i4.2.2.1 _ (List.mem_of_getElem? (i := 2) rfl)).2.2.2.2.1, (i4.2.2.1 _ (List.mem_of_getElem? (i := 1) rfl)).2.1, (i4.2.2.1 _ (List.mem_of_getElem? (i := 1) rfl)).2.2.2.2.1, (i4.2.2.1 _ (List.mem_of_getElem? (i := 0) rfl)).2.1, (i4.2.2.1 _ (List.mem_of_getElem? (i := 0) rfl)).2.2.2.2.1, n12, (i4.2.2.1 _ (List.mem_of_getElem? (i := 3) rfl)).2.2.2.2.2.2, r4_inj nd⟩, i4.2.2.2.2⟩)
