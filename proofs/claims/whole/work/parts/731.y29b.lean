set_option maxRecDepth 100000 in
set_option maxHeartbeats 4000000 in
theorem c_X5_init (l : Launch) (S0 : HS) (x0 : Nat) (h0 : hK S0 x0 = 0) : cI l yX5_init cX5_init 1 4 [.ref x0] (nO S0 x0 6) (pV fun u => ∃ am : AM, am 0 = x0 ∧ NA u am 0 ∧ NV u am q00 ∧ hI u 61 x0 = 0 ∧ Old S0 u) 11 702 := by
  refine cI_intro (by decide +kernel) cd_X5_init (Nat.le_of_ble_eq_true rfl) ?_
  intro pP eE sS mM aA bB tT cC G A C hao hRT hin
  refine V.lvs (lv2 := [(0, .ref x0)]) rfl ?_
  refine v_aload_n C 0 rfl rfl dX5_init_0 ?_
  refine v_objInit C oi_RX5_1 (Nat.le_of_ble_eq_true rfl) (Nat.le_of_ble_eq_true rfl) (Nat.le_of_ble_eq_true rfl) dX5_init_1 ?_
  have i0 : Ini 6 S0 (nO S0 x0 6) x0 [] (fun _ => 0) := Ini.new h0
  obtain ⟨T0, hT0⟩ : ∃ Tz, Tz = nO S0 x0 6 := ⟨_, rfl⟩
  rw [← hT0]; rw [← hT0] at i0
  refine v_aload_n C 0 rfl rfl dX5_init_4 ?_
  refine v_bipush C 16 (by decide) dX5_init_5 ?_
  refine v_newa C 16 (Or.inl ⟨rfl, rfl⟩) ac_int (by decide) (by decide) (by decide) (by show 0 + 1 ≤ 11; omega) (by show 0 + 16 ≤ 702; omega) dX5_init_7 (fun b0 hfb0 => ?_)
  refine v_putRF C fl_RX5_9 ((hK_nA2 (ne_fresh i0.1 (by decide) hfb0)).trans i0.1) hin (by decide +kernel) rfl rfl dX5_init_9 ?_
  have i1 := i0.arr h0 (by decide) hfb0 (kd := 10) (n := 16) (f := 41) (by decide) (by simp)
  obtain ⟨T1, hT1⟩ : ∃ Tz, Tz = (sR (nA T0 b0 10 16) 41 x0 (some b0)) := ⟨_, rfl⟩
  rw [← hT1]; rw [← hT1] at i1
  refine v_aload_n C 0 rfl rfl dX5_init_12 ?_
  refine v_iconst C 4 (by decide) dX5_init_13 ?_
  refine v_newa C 4 (Or.inl ⟨rfl, rfl⟩) ac_int (by decide) (by decide) (by decide) (by show 0 + 1 + 1 ≤ 11; omega) (by show 0 + 16 + 4 ≤ 702; omega) dX5_init_14 (fun b1 hfb1 => ?_)
  refine v_putRF C fl_RX5_13 ((hK_nA2 (ne_fresh i1.1 (by decide) hfb1)).trans i1.1) hin (by decide +kernel) rfl rfl dX5_init_16 ?_
  have i2 := i1.arr h0 (by decide) hfb1 (kd := 10) (n := 4) (f := 42) (by decide) (by simp)
  obtain ⟨T2, hT2⟩ : ∃ Tz, Tz = (sR (nA T1 b1 10 4) 42 x0 (some b1)) := ⟨_, rfl⟩
  rw [← hT2]; rw [← hT2] at i2
  refine v_aload_n C 0 rfl rfl dX5_init_19 ?_
  refine v_sipush C 540 (by decide) dX5_init_20 ?_
  refine v_newa C 540 (Or.inl ⟨rfl, rfl⟩) ac_int (by decide) (by decide) (by decide) (by show 0 + 1 + 1 + 1 ≤ 11; omega) (by show 0 + 16 + 4 + 540 ≤ 702; omega) dX5_init_23 (fun b2 hfb2 => ?_)
  refine v_putRF C fl_RX5_16 ((hK_nA2 (ne_fresh i2.1 (by decide) hfb2)).trans i2.1) hin (by decide +kernel) rfl rfl dX5_init_25 ?_
  have i3 := i2.arr h0 (by decide) hfb2 (kd := 10) (n := 540) (f := 43) (by decide) (by simp)
  obtain ⟨T3, hT3⟩ : ∃ Tz, Tz = (sR (nA T2 b2 10 540) 43 x0 (some b2)) := ⟨_, rfl⟩
  rw [← hT3]; rw [← hT3] at i3
  refine v_aload_n C 0 rfl rfl dX5_init_28 ?_
  refine v_bipush C 60 (by decide) dX5_init_29 ?_
  refine v_newqC C 60 cl_19 hao.2.2.2.1 (by decide) (by decide) (by decide) (by show 0 + 1 + 1 + 1 + 1 ≤ 11; omega) (by show 0 + 16 + 4 + 540 + 60 ≤ 702; omega) dX5_init_31 (fun b3 hfb3 => ?_)
  refine v_putRF C fl_RX5_21 ((hK_nA2 (ne_fresh i3.1 (by decide) hfb3)).trans i3.1) hin (by decide +kernel) rfl rfl dX5_init_34 ?_
  have i4 := i3.arr h0 (by decide) hfb3 (kd := 17) (n := 60) (f := 45) (by decide) (by simp)
  obtain ⟨T4, hT4⟩ : ∃ Tz, Tz = (sR (nA T3 b3 17 60) 45 x0 (some b3)) := ⟨_, rfl⟩
  rw [← hT4]; rw [← hT4] at i4
  refine v_aload_n C 0 rfl rfl dX5_init_37 ?_
  refine v_bipush C 60 (by decide) dX5_init_38 ?_
  refine v_newa C 60 (Or.inl ⟨rfl, rfl⟩) ac_int (by decide) (by decide) (by decide) (by show 0 + 1 + 1 + 1 + 1 + 1 ≤ 11; omega) (by show 0 + 16 + 4 + 540 + 60 + 60 ≤ 702; omega) dX5_init_40 (fun b4 hfb4 => ?_)
  refine v_putRF C fl_RX5_25 ((hK_nA2 (ne_fresh i4.1 (by decide) hfb4)).trans i4.1) hin (by decide +kernel) rfl rfl dX5_init_42 ?_
  have i5 := i4.arr h0 (by decide) hfb4 (kd := 10) (n := 60) (f := 46) (by decide) (by simp)
  obtain ⟨T5, hT5⟩ : ∃ Tz, Tz = (sR (nA T4 b4 10 60) 46 x0 (some b4)) := ⟨_, rfl⟩
  rw [← hT5]; rw [← hT5] at i5
  refine v_aload_n C 0 rfl rfl dX5_init_45 ?_
  refine v_iconst C 4 (by decide) dX5_init_46 ?_
  refine v_newa C 4 (Or.inl ⟨rfl, rfl⟩) ac_int (by decide) (by decide) (by decide) (by show 0 + 1 + 1 + 1 + 1 + 1 + 1 ≤ 11; omega) (by show 0 + 16 + 4 + 540 + 60 + 60 + 4 ≤ 702; omega) dX5_init_47 (fun b5 hfb5 => ?_)
  refine v_putRF C fl_RX5_28 ((hK_nA2 (ne_fresh i5.1 (by decide) hfb5)).trans i5.1) hin (by decide +kernel) rfl rfl dX5_init_49 ?_
  have i6 := i5.arr h0 (by decide) hfb5 (kd := 10) (n := 4) (f := 47) (by decide) (by simp)
  obtain ⟨T6, hT6⟩ : ∃ Tz, Tz = (sR (nA T5 b5 10 4) 47 x0 (some b5)) := ⟨_, rfl⟩
  rw [← hT6]; rw [← hT6] at i6
  refine v_aload_n C 0 rfl rfl dX5_init_52 ?_
  refine v_iconst C 4 (by decide) dX5_init_53 ?_
  refine v_newa C 4 (Or.inl ⟨rfl, rfl⟩) ac_int (by decide) (by decide) (by decide) (by show 0 + 1 + 1 + 1 + 1 + 1 + 1 + 1 ≤ 11; omega) (by show 0 + 16 + 4 + 540 + 60 + 60 + 4 + 4 ≤ 702; omega) dX5_init_54 (fun b6 hfb6 => ?_)
  refine v_putRF C fl_RX5_31 ((hK_nA2 (ne_fresh i6.1 (by decide) hfb6)).trans i6.1) hin (by decide +kernel) rfl rfl dX5_init_56 ?_
  have i7 := i6.arr h0 (by decide) hfb6 (kd := 10) (n := 4) (f := 48) (by decide) (by simp)
  obtain ⟨T7, hT7⟩ : ∃ Tz, Tz = (sR (nA T6 b6 10 4) 48 x0 (some b6)) := ⟨_, rfl⟩
  rw [← hT7]; rw [← hT7] at i7
  refine v_aload_n C 0 rfl rfl dX5_init_59 ?_
  refine v_iconst C 4 (by decide) dX5_init_60 ?_
  refine v_newa C 4 (Or.inl ⟨rfl, rfl⟩) ac_int (by decide) (by decide) (by decide) (by show 0 + 1 + 1 + 1 + 1 + 1 + 1 + 1 + 1 ≤ 11; omega) (by show 0 + 16 + 4 + 540 + 60 + 60 + 4 + 4 + 4 ≤ 702; omega) dX5_init_61 (fun b7 hfb7 => ?_)
  refine v_putRF C fl_RX5_34 ((hK_nA2 (ne_fresh i7.1 (by decide) hfb7)).trans i7.1) hin (by decide +kernel) rfl rfl dX5_init_63 ?_
  have i8 := i7.arr h0 (by decide) hfb7 (kd := 10) (n := 4) (f := 49) (by decide) (by simp)
  obtain ⟨T8, hT8⟩ : ∃ Tz, Tz = (sR (nA T7 b7 10 4) 49 x0 (some b7)) := ⟨_, rfl⟩
  rw [← hT8]; rw [← hT8] at i8
  refine v_aload_n C 0 rfl rfl dX5_init_66 ?_
  refine v_bipush C 20 (by decide) dX5_init_67 ?_
  refine v_putI C fl_RX5_37 i8.1 rfl rfl dX5_init_69 ?_
  have i9 := i8.int h0 (f := 51) (v := 20)
  obtain ⟨T9, hT9⟩ : ∃ Tz, Tz = (sI T8 51 x0 20) := ⟨_, rfl⟩
  rw [← hT9]; rw [← hT9] at i9
  refine v_aload_n C 0 rfl rfl dX5_init_72 ?_
  refine v_bipush C 8 (by decide) dX5_init_73 ?_
  refine v_putI C fl_RX5_41 i9.1 rfl rfl dX5_init_75 ?_
  have i10 := i9.int h0 (f := 52) (v := 8)
  obtain ⟨T10, hT10⟩ : ∃ Tz, Tz = (sI T9 52 x0 8) := ⟨_, rfl⟩
  rw [← hT10]; rw [← hT10] at i10
  refine v_aload_n C 0 rfl rfl dX5_init_78 ?_
  refine v_iconst C 4 (by decide) dX5_init_79 ?_
  refine v_putI C fl_RX5_44 i10.1 rfl rfl dX5_init_80 ?_
  have i11 := i10.int h0 (f := 53) (v := 4)
  obtain ⟨T11, hT11⟩ : ∃ Tz, Tz = (sI T10 53 x0 4) := ⟨_, rfl⟩
  rw [← hT11]; rw [← hT11] at i11
  refine v_aload_n C 0 rfl rfl dX5_init_83 ?_
  refine v_iconst C 3 (by decide) dX5_init_84 ?_
  refine v_putI C fl_RX5_47 i11.1 rfl rfl dX5_init_85 ?_
  have i12 := i11.int h0 (f := 54) (v := 3)
  obtain ⟨T12, hT12⟩ : ∃ Tz, Tz = (sI T11 54 x0 3) := ⟨_, rfl⟩
  rw [← hT12]; rw [← hT12] at i12
  refine v_aload_n C 0 rfl rfl dX5_init_88 ?_
  refine v_iconst C 2 (by decide) dX5_init_89 ?_
  refine v_putI C fl_RX5_50 i12.1 rfl rfl dX5_init_90 ?_
  have i13 := i12.int h0 (f := 55) (v := 2)
  obtain ⟨T13, hT13⟩ : ∃ Tz, Tz = (sI T12 55 x0 2) := ⟨_, rfl⟩
  rw [← hT13]; rw [← hT13] at i13
  refine v_aload_n C 0 rfl rfl dX5_init_93 ?_
  refine v_iconst C 4 (by decide) dX5_init_94 ?_
  refine v_newa C 4 (Or.inl ⟨rfl, rfl⟩) ac_int (by decide) (by decide) (by decide) (by show 0 + 1 + 1 + 1 + 1 + 1 + 1 + 1 + 1 + 1 ≤ 11; omega) (by show 0 + 16 + 4 + 540 + 60 + 60 + 4 + 4 + 4 + 4 ≤ 702; omega) dX5_init_95 (fun b8 hfb8 => ?_)
  refine v_putRF C fl_RX5_53 ((hK_nA2 (ne_fresh i13.1 (by decide) hfb8)).trans i13.1) hin (by decide +kernel) rfl rfl dX5_init_97 ?_
  have i14 := i13.arr h0 (by decide) hfb8 (kd := 10) (n := 4) (f := 58) (by decide) (by simp)
  obtain ⟨T14, hT14⟩ : ∃ Tz, Tz = (sR (nA T13 b8 10 4) 58 x0 (some b8)) := ⟨_, rfl⟩
  rw [← hT14]; rw [← hT14] at i14
  refine v_aload_n C 0 rfl rfl dX5_init_100 ?_
  refine v_iconst C 4 (by decide) dX5_init_101 ?_
  refine v_newa C 4 (Or.inl ⟨rfl, rfl⟩) ac_int (by decide) (by decide) (by decide) (by show 0 + 1 + 1 + 1 + 1 + 1 + 1 + 1 + 1 + 1 + 1 ≤ 11; omega) (by show 0 + 16 + 4 + 540 + 60 + 60 + 4 + 4 + 4 + 4 + 4 ≤ 702; omega) dX5_init_102 (fun b9 hfb9 => ?_)
  refine v_putRF C fl_RX5_56 ((hK_nA2 (ne_fresh i14.1 (by decide) hfb9)).trans i14.1) hin (by decide +kernel) rfl rfl dX5_init_104 ?_
  have i15 := i14.arr h0 (by decide) hfb9 (kd := 10) (n := 4) (f := 59) (by decide) (by simp)
  obtain ⟨T15, hT15⟩ : ∃ Tz, Tz = (sR (nA T14 b9 10 4) 59 x0 (some b9)) := ⟨_, rfl⟩
  rw [← hT15]; rw [← hT15] at i15
  refine v_aload_n C 0 rfl rfl dX5_init_107 ?_
  refine v_iconst C 2 (by decide) dX5_init_108 ?_
  refine v_newa C 2 (Or.inl ⟨rfl, rfl⟩) ac_int (by decide) (by decide) (by decide) (by show 0 + 1 + 1 + 1 + 1 + 1 + 1 + 1 + 1 + 1 + 1 + 1 ≤ 11; omega) (by show 0 + 16 + 4 + 540 + 60 + 60 + 4 + 4 + 4 + 4 + 4 + 2 ≤ 702; omega) dX5_init_109 (fun b10 hfb10 => ?_)
  refine v_putRF C fl_RX5_59 ((hK_nA2 (ne_fresh i15.1 (by decide) hfb10)).trans i15.1) hin (by decide +kernel) rfl rfl dX5_init_111 ?_
  have i16 := i15.arr h0 (by decide) hfb10 (kd := 10) (n := 2) (f := 62) (by decide) (by simp)
  obtain ⟨T16, hT16⟩ : ∃ Tz, Tz = (sR (nA T15 b10 10 2) 62 x0 (some b10)) := ⟨_, rfl⟩
  rw [← hT16]; rw [← hT16] at i16
  exact v_vret C hRT (Nat.le_of_ble_eq_true rfl) (Nat.le_of_ble_eq_true rfl) dX5_init_114 ⟨rfl, (fun i => [x0, b0, b1, b2, b3, b4, b5, b6, b7, b8, b9, b10].getD i 0), rfl, iniA i16, iniV i16 rfl rfl rfl rfl rfl rfl rfl rfl rfl, (i16.2.1 61).trans rfl, i16.2.2.2.2⟩
