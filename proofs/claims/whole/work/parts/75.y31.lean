theorem Ini.old {S0 T u : HS} {x0 kr : Nat} {L : List (Nat × Nat × Nat × Nat)} {g : Nat → Int32} (h : Ini kr S0 T x0 L g) (hr : kr ≠ 0) (o : Old T u) : Ini kr S0 u x0 L g := by
  obtain ⟨h1, h2, h3, h4, h5⟩ := h
  obtain ⟨o1, o2, o3, o4, -⟩ := o x0 (by rw [h1]; exact hr)
  refine ⟨o1.trans h1, fun f => (o4 f).trans (h2 f), fun q hq => ?_, h4, h5.tr o⟩
  obtain ⟨a1, a2, a3, a4, a5, a6, a7⟩ := h3 q hq
  obtain ⟨p1, p2, -, -, -, p6, -⟩ := o q.2.1 (by rw [a2]; exact a3)
  exact ⟨(o3 _).trans a1, p1.trans a2, a3, a4, p2.trans a5, fun z => (congrFun p6 z).trans (a6 z), a7⟩
theorem Ini.ref {S0 T : HS} {x0 kr f : Nat} {v : Option Nat} {L : List (Nat × Nat × Nat × Nat)} {g : Nat → Int32} (h0 : hK S0 x0 = 0) (h : Ini kr S0 T x0 L g) (hf : ∀ q ∈ L, q.1 ≠ f) : Ini kr S0 (sR T f x0 v) x0 L g := by
  obtain ⟨h1, h2, h3, h4, h5⟩ := h
  refine ⟨h1, h2, fun q hq => ?_, h4, Old.pR h0 h5⟩
  obtain ⟨a1, a2⟩ := h3 q hq
  exact ⟨(hR_sR2 (fun z => hf q hq z.1)).trans a1, a2⟩
theorem Ini.row {S0 T : HS} {x0 kr c kd b j : Nat} {v : Option Nat} {L : List (Nat × Nat × Nat × Nat)} {g : Nat → Int32} (h : Ini kr S0 T x0 L g) (hr : kr ≠ 0) (hc : hK T c = 0) (hb : hK S0 b = 0) : Ini kr S0 (tR (nO T c kd) b j v) x0 L g := by
  have h9 := h.old hr (Old.newO (kd := kd) hc)
  exact ⟨h9.1, h9.2.1, h9.2.2.1, h9.2.2.2.1, Old.wR hb h9.2.2.2.2⟩
/-- rows of objects of a kind -/
def CK (kd : Nat) (T : HS) (b j : Nat) (cs : Nat → Nat) : Prop := (∀ i, i < j → aR T b i = some (cs i) ∧ hK T (cs i) = kd ∧ (∀ f, hI T f (cs i) = 0)) ∧ (∀ i, i < j → ∀ i', i' < j → cs i = cs i' → i = i')
theorem CK.zero {kd : Nat} {T : HS} {b : Nat} {cs : Nat → Nat} : CK kd T b 0 cs := ⟨fun i hi => absurd hi (Nat.not_lt_zero i), fun i hi => absurd hi (Nat.not_lt_zero i)⟩
theorem CK.step {kd : Nat} {T : HS} {b j c : Nat} {cs : Nat → Nat} (h : CK kd T b j cs) (hc : hK T c = 0) (hkd : kd ≠ 0) : CK kd (tR (nO T c kd) b j (some c)) b (j + 1) (fun i => if i = j then c else cs i) := by
  have hne : ∀ i, i < j → cs i ≠ c := fun i hi z => hkd (by rw [← (h.1 i hi).2.1, z]; exact hc)
  refine ⟨fun i hi => ?_, fun i hi i' hi' e => ?_⟩
  · dsimp only
    by_cases e : i = j
    · rw [if_pos e, aR_tR1, if_pos e]
      exact ⟨rfl, hK_nO1 (kd := kd), fun f => hI_nO1 (kd := kd)⟩
    · rw [if_neg e, aR_tR1, if_neg e]
      obtain ⟨a, b9, d⟩ := h.1 i (by omega)
      exact ⟨a, (hK_nO2 (kd := kd) (hne i (by omega))).trans b9, fun f => (hI_nO2 (kd := kd) (hne i (by omega))).trans (d f)⟩
  · dsimp only at e
    by_cases e1 : i = j <;> by_cases e2 : i' = j
    · omega
    · rw [if_pos e1, if_neg e2] at e; exact absurd e.symm (hne i' (by omega))
    · rw [if_neg e1, if_pos e2] at e; exact absurd e (hne i (by omega))
    · rw [if_neg e1, if_neg e2] at e; exact h.2 i (by omega) i' (by omega) e
theorem CK.oth {kd kd' : Nat} {T : HS} {b b' j j' c : Nat} {v : Option Nat} {cs : Nat → Nat} (h : CK kd T b j cs) (hc : hK T c = 0) (hkd : kd ≠ 0) (hb : b ≠ b') : CK kd (tR (nO T c kd') b' j' v) b j cs := by
  have hne : ∀ i, i < j → cs i ≠ c := fun i hi z => hkd (by rw [← (h.1 i hi).2.1, z]; exact hc)
  refine ⟨fun i hi => ?_, h.2⟩
  obtain ⟨a, b9, d⟩ := h.1 i hi
  exact ⟨(congrFun (aR_tR2 hb) i).trans a, (hK_nO2 (kd := kd') (hne i hi)).trans b9, fun f => (hI_nO2 (kd := kd') (hne i hi)).trans (d f)⟩
theorem MXF.row {S0 T : HS} {m a9 a10 a12 a13 c kd b j : Nat} {r : Nat → Nat} {v : Option Nat} (h : MXF S0 T m a9 a10 a12 a13 r) (hc : hK T c = 0) (hb : hK T b ≠ 16) : MXF S0 (tR (nO T c kd) b j v) m a9 a10 a12 a13 r := by
  obtain ⟨h1, h2, h3, h4, h5, h6, h7, ⟨e1, e2, e3⟩, h8, h9, h10, h11, h12, h13, h14, h15⟩ := h
  have ne : ∀ a, hK T a ≠ 0 → a ≠ c := fun a ha z => ha (by rw [z]; exact hc)
  have k : ∀ a n, hK T a = n → n ≠ 0 → hK (tR (nO T c kd) b j v) a = n := fun a n ha hn => (hK_nO2 (kd := kd) (ne a (by rw [ha]; exact hn))).trans ha
  have rr : ∀ f, hR (tR (nO T c kd) b j v) f m = hR T f m := fun f => hR_nO2 (kd := kd) (ne m (by rw [h1]; decide))
  have ha10 : a10 ≠ b := fun z => hb (by rw [← z]; exact e1)
  exact ⟨k _ _ h1 (by decide), (rr 7).trans h2, (rr 8).trans h3, (rr 10).trans h4, (rr 11).trans h5, k _ _ h6 (by decide), h7, ⟨k _ _ e1 (by decide), fun i hi => (congrFun (aR_tR2 ha10) i).trans (e2 i hi), fun i hi => ⟨k _ _ (e3 i hi).1 (by decide), (e3 i hi).2⟩⟩, h8, k _ _ h9 (by decide), h10, k _ _ h11 (by decide), h12, h13, h14, h15⟩
theorem MXF.ref {S0 T : HS} {x0 f m a9 a10 a12 a13 : Nat} {r : Nat → Nat} {v : Option Nat} (h : MXF S0 T m a9 a10 a12 a13 r) (hx : m ≠ x0) : MXF S0 (sR T f x0 v) m a9 a10 a12 a13 r := by
  obtain ⟨h1, h2, h3, h4, h5, h⟩ := h
  have rr : ∀ g, hR (sR T f x0 v) g m = hR T g m := fun g => hR_sR2 (fun z => hx z.2)
  exact ⟨h1, (rr 7).trans h2, (rr 8).trans h3, (rr 10).trans h4, (rr 11).trans h5, h⟩
/-- the class's addresses at its beginning -/
def ad0 (x0 b0 b1 b2 m a9 a10 a12 a13 : Nat) (cs rs r : Nat → Nat) : AD := fun i j => if i = 0 then x0 else if i = 1 then b0 else if i = 2 then cs j else if i = 3 then b1 else if i = 4 then rs j else if i = 5 then b2 else if i = 8 then m else if i = 9 then a9 else if i = 10 then a10 else if i = 11 then r j else if i = 12 then a12 else a13
theorem iniXA {S1 : HS} {S0 T : HS} {x0 b0 b1 b2 m a9 a10 a12 a13 : Nat} {cs rs r : Nat → Nat} {g : Nat → Int32} (hi : Ini 5 S0 T x0 [(31, b2, 15, 60), (29, b1, 14, 4), (28, b0, 13, 4)] g) (h33 : hR T 33 x0 = some m) (hm : MXF S1 T m a9 a10 a12 a13 r) (hc : CK 1 T b0 4 cs) (hd : CK 3 T b1 4 rs) (h59 : b2 ≠ a9) (hz : ∀ i, aR T b2 i = none) : XA T (ad0 x0 b0 b1 b2 m a9 a10 a12 a13 cs rs r) 0 := by
  have mC := hi.2.2.1 _ (List.mem_of_getElem? (i := 0) rfl)
  have mB := hi.2.2.1 _ (List.mem_of_getElem? (i := 1) rfl)
  have mA := hi.2.2.1 _ (List.mem_of_getElem? (i := 2) rfl)
  have hE := hm.2.2.2.2.2.2.2.1
  exact ⟨hi.1, mA.2.1, fun i hi9 => (hc.1 i hi9).2.1, mB.2.1, fun i hi9 => (hd.1 i hi9).2.1, mC.2.1, fun i hi9 => absurd hi9 (Nat.not_lt_zero i), fun i hi9 => absurd hi9 (Nat.not_lt_zero i), hm.1, hm.2.2.2.2.2.1, hE.1, fun i hi9 => (hE.2.2 i hi9).1, hm.2.2.2.2.2.2.2.2.2.1, hm.2.2.2.2.2.2.2.2.2.2.2.1, mA.1, mB.1, mC.1, h33, hm.2.1, hm.2.2.1, hm.2.2.2.1, hm.2.2.2.2.1, fun i hi9 => absurd hi9 (Nat.not_lt_zero i), mA.2.2.2.2.1, mB.2.2.2.2.1, mC.2.2.2.2.1, hm.2.2.2.2.2.2.1, hm.2.2.2.2.2.2.2.2.1, fun i hi9 => (hE.2.2 i hi9).2, hm.2.2.2.2.2.2.2.2.2.2.1, hm.2.2.2.2.2.2.2.2.2.2.2.2.1, fun i hi9 => absurd hi9 (Nat.not_lt_zero i), fun i hi9 => (hc.1 i hi9).1, fun i hi9 => (hd.1 i hi9).1, fun i hi9 => absurd hi9 (Nat.not_lt_zero i), fun i hi9 => hE.2.1 i hi9, hc.2, hd.2, fun i hi9 => absurd hi9 (Nat.not_lt_zero i), fun i hi9 => absurd hi9 (Nat.not_lt_zero i), hm.2.2.2.2.2.2.2.2.2.2.2.2.2.2.2, h59, hm.2.2.2.2.2.2.2.2.2.2.2.2.2.1, by decide, fun i _ _ => hz i⟩
theorem iniXV {S0 T : HS} {x0 b0 b1 b2 m a9 a10 a12 a13 : Nat} {cs rs r : Nat → Nat} {g : Nat → Int32} (hi : Ini 5 S0 T x0 [(31, b2, 15, 60), (29, b1, 14, 4), (28, b0, 13, 4)] g) (h33 : hR T 33 x0 = some m) (hc : CK 1 T b0 4 cs) (hd : CK 3 T b1 4 rs) (h59 : b2 ≠ a9) (g30 : g 30 = 0) (g32 : g 32 = 0) (g39 : g 39 = 0) (g40 : g 40 = 0) (g34 : g 34 = 20) (g35 : g 35 = 8) (g36 : g 36 = 4) (g37 : g 37 = 3) (g38 : g 38 = 2) : XV T (ad0 x0 b0 b1 b2 m a9 a10 a12 a13 cs rs r) q00 := ⟨(hi.2.1 30).trans g30, (hi.2.1 32).trans g32, (hi.2.1 39).trans g39, (hi.2.1 40).trans g40, (hi.2.1 34).trans g34, (hi.2.1 35).trans g35, (hi.2.1 36).trans g36, (hi.2.1 37).trans g37, (hi.2.1 38).trans g38, fun i hi9 => (hc.1 i hi9).2.2 0, fun i hi9 k _ => (hc.1 i hi9).2.2 (1 + k), fun i hi9 k _ => (hd.1 i hi9).2.2 (13 + k), fun i hi9 => absurd hi9 (Nat.not_lt_zero i), fun i hi9 => absurd hi9 (Nat.not_lt_zero i), fun i hi9 => absurd hi9 (Nat.not_lt_zero i), fun i hi9 => absurd hi9 (Nat.not_lt_zero i), fun i hi9 => absurd hi9 (Nat.not_lt_zero i), fun i hi9 => absurd hi9 (Nat.not_lt_zero i)⟩
set_option maxRecDepth 100000 in
set_option maxHeartbeats 4000000 in
theorem c_X4_init (l : Launch) (S0 : HS) (x0 : Nat) (h0 : hK S0 x0 = 0) : cI l yX4_init cX4_init 2 6 [.ref x0] (nO S0 x0 5) (pV fun u => ∃ ad : AD, ad 0 0 = x0 ∧ XA u ad 0 ∧ XV u ad q00 ∧ Old S0 u) 20 150 := by
  refine cI_intro (by decide +kernel) cd_X4_init (Nat.le_of_ble_eq_true rfl) ?_
  intro pP eE sS mM aA bB tT cC G A C hao hRT hin
  refine V.lvs (lv2 := [(0, .ref x0)]) rfl ?_
  refine v_aload_n C 0 rfl rfl dX4_init_0 ?_
  refine v_objInit C oi_RX4_1 (Nat.le_of_ble_eq_true rfl) (Nat.le_of_ble_eq_true rfl) (Nat.le_of_ble_eq_true rfl) dX4_init_1 ?_
  have i0 : Ini 5 S0 (nO S0 x0 5) x0 [] (fun _ => 0) := Ini.new h0
  obtain ⟨T0, hT0⟩ : ∃ Tz, Tz = nO S0 x0 5 := ⟨_, rfl⟩
  rw [← hT0]; rw [← hT0] at i0
  refine v_aload_n C 0 rfl rfl dX4_init_4 ?_
  refine v_iconst C 4 (by decide) dX4_init_5 ?_
  refine v_newq2 C 4 (Or.inl ⟨rfl, rfl⟩) (wsG_in 71 (by decide +kernel) (by decide +kernel)) hao.1 (by decide) (by decide) (by decide) (by show 0 + 1 ≤ 20; omega) (by show 0 + 4 ≤ 150; omega) dX4_init_6 (fun b0 hfb0 => ?_)
  refine v_putRF C fl_RX4_11 ((hK_nA2 (ne_fresh i0.1 (by decide) hfb0)).trans i0.1) hin (by decide +kernel) rfl rfl dX4_init_9 ?_
  have i1 := i0.arr h0 (by decide) hfb0 (kd := 13) (n := 4) (f := 28) (by decide) (by simp)
  obtain ⟨T1, hT1⟩ : ∃ Tz, Tz = (sR (nA T0 b0 13 4) 28 x0 (some b0)) := ⟨_, rfl⟩
  rw [← hT1]; rw [← hT1] at i1
  refine v_aload_n C 0 rfl rfl dX4_init_12 ?_
  refine v_iconst C 4 (by decide) dX4_init_13 ?_
  refine v_newq2 C 4 (Or.inr (Or.inl ⟨rfl, rfl⟩)) (wsG_in 73 (by decide +kernel) (by decide +kernel)) hao.2.1 (by decide) (by decide) (by decide) (by show 0 + 1 + 1 ≤ 20; omega) (by show 0 + 4 + 4 ≤ 150; omega) dX4_init_14 (fun b1 hfb1 => ?_)
  refine v_putRF C fl_RX4_17 ((hK_nA2 (ne_fresh i1.1 (by decide) hfb1)).trans i1.1) hin (by decide +kernel) rfl rfl dX4_init_17 ?_
  have i2 := i1.arr h0 (by decide) hfb1 (kd := 14) (n := 4) (f := 29) (by decide) (by simp)
  obtain ⟨T2, hT2⟩ : ∃ Tz, Tz = (sR (nA T1 b1 14 4) 29 x0 (some b1)) := ⟨_, rfl⟩
  rw [← hT2]; rw [← hT2] at i2
  refine v_aload_n C 0 rfl rfl dX4_init_20 ?_
  refine v_bipush C 60 (by decide) dX4_init_21 ?_
  refine v_newq2 C 60 (Or.inr (Or.inr ⟨rfl, rfl⟩)) (wsG_in 75 (by decide +kernel) (by decide +kernel)) hao.2.2.1 (by decide) (by decide) (by decide) (by show 0 + 1 + 1 + 1 ≤ 20; omega) (by show 0 + 4 + 4 + 60 ≤ 150; omega) dX4_init_23 (fun b2 hfb2 => ?_)
  refine v_putRF C fl_RX4_23 ((hK_nA2 (ne_fresh i2.1 (by decide) hfb2)).trans i2.1) hin (by decide +kernel) rfl rfl dX4_init_26 ?_
  have i3 := i2.arr h0 (by decide) hfb2 (kd := 15) (n := 60) (f := 31) (by decide) (by simp)
  have z3 : ∀ i, aR (sR (nA T2 b2 15 60) 31 x0 (some b2)) b2 i = none := fun i => (show aR (nA T2 b2 15 60) b2 i = none from aR_nA1)
  obtain ⟨T3, hT3⟩ : ∃ Tz, Tz = (sR (nA T2 b2 15 60) 31 x0 (some b2)) := ⟨_, rfl⟩
  rw [← hT3]; rw [← hT3] at i3 z3
  refine v_aload_n C 0 rfl rfl dX4_init_29 ?_
  refine v_new C nl_RX4_27 (by show 0 + 1 + 1 + 1 + 1 ≤ 20; omega) (by show 0 + 4 + 4 + 60 + 8 ≤ 150; omega) dX4_init_30 (fun m hm => ?_)
  refine v_dup C rfl dX4_init_33 ?_
  refine v_callINX C hao (st := [.ref m, .ref x0]) [] (c_X1_init l T3 m hm) mn_RX4_29 mii_yX1_init rfl rfl (Nat.le_of_ble_eq_true rfl) (Nat.le_of_ble_eq_true rfl) (Nat.le_of_ble_eq_true rfl) (by show 0 + 1 + 1 + 1 + 1 + 8 ≤ 20; omega) (by show 0 + 4 + 4 + 60 + 8 + 42 ≤ 150; omega) dX4_init_34 (fun u h => ?_) _ rfl
  obtain ⟨a9, a10, a12, a13, r, hmx, hold⟩ := h
  have iu := i3.old (by decide) hold
  have hmx0 : m ≠ x0 := fun z => by have h9 := hm; rw [z, i3.1] at h9; exact absurd h9 (by decide)
  have zu : ∀ i, aR u b2 i = none := fun i => (congrFun (hold b2 (by rw [show hK T3 b2 = 15 from (i3.2.2.1 _ (List.mem_of_getElem? (i := 0) rfl)).2.1]; decide)).2.2.2.2.2.2.1 i).trans (z3 i)
  have h59 : b2 ≠ a9 := fun z => by have h9 : hK T3 b2 = 15 := (i3.2.2.1 _ (List.mem_of_getElem? (i := 0) rfl)).2.1; rw [z] at h9; have h8 := hmx.2.2.2.2.2.2.2.2.2.2.2.2.2.2.1; rw [h8] at h9; exact absurd h9 (by decide)
  refine v_putRF C fl_RX4_30 iu.1 hin (by decide +kernel) rfl rfl dX4_init_37 ?_
  have i4 := iu.ref h0 (f := 33) (v := some m) (by simp)
  have x4 := hmx.ref (f := 33) (v := some m) hmx0
  have y4 : hR (sR u 33 x0 (some m)) 33 x0 = some m := hR_sR1
  have z4 : ∀ i, aR (sR u 33 x0 (some m)) b2 i = none := zu
  obtain ⟨T4, hT4⟩ : ∃ Tz, Tz = (sR u 33 x0 (some m)) := ⟨_, rfl⟩
  rw [← hT4]; rw [← hT4] at i4 x4 y4 z4
  refine v_aload_n C 0 rfl rfl dX4_init_40 ?_
  refine v_bipush C 20 (by decide) dX4_init_41 ?_
  refine v_putI C fl_RX4_34 i4.1 rfl rfl dX4_init_43 ?_
  have i5 := i4.int h0 (f := 34) (v := 20)
  have x5 : MXF T3 (sI T4 34 x0 20) m a9 a10 a12 a13 r := x4
  have y5 : hR (sI T4 34 x0 20) 33 x0 = some m := y4
  have z5 : ∀ i, aR (sI T4 34 x0 20) b2 i = none := z4
  obtain ⟨T5, hT5⟩ : ∃ Tz, Tz = (sI T4 34 x0 20) := ⟨_, rfl⟩
  rw [← hT5]; rw [← hT5] at i5 x5 y5 z5
  refine v_aload_n C 0 rfl rfl dX4_init_46 ?_
  refine v_bipush C 8 (by decide) dX4_init_47 ?_
  refine v_putI C fl_RX4_38 i5.1 rfl rfl dX4_init_49 ?_
  have i6 := i5.int h0 (f := 35) (v := 8)
  have x6 : MXF T3 (sI T5 35 x0 8) m a9 a10 a12 a13 r := x5
  have y6 : hR (sI T5 35 x0 8) 33 x0 = some m := y5
  have z6 : ∀ i, aR (sI T5 35 x0 8) b2 i = none := z5
  obtain ⟨T6, hT6⟩ : ∃ Tz, Tz = (sI T5 35 x0 8) := ⟨_, rfl⟩
  rw [← hT6]; rw [← hT6] at i6 x6 y6 z6
  refine v_aload_n C 0 rfl rfl dX4_init_52 ?_
  refine v_iconst C 4 (by decide) dX4_init_53 ?_
  refine v_putI C fl_RX4_41 i6.1 rfl rfl dX4_init_54 ?_
  have i7 := i6.int h0 (f := 36) (v := 4)
  have x7 : MXF T3 (sI T6 36 x0 4) m a9 a10 a12 a13 r := x6
  have y7 : hR (sI T6 36 x0 4) 33 x0 = some m := y6
  have z7 : ∀ i, aR (sI T6 36 x0 4) b2 i = none := z6
  obtain ⟨T7, hT7⟩ : ∃ Tz, Tz = (sI T6 36 x0 4) := ⟨_, rfl⟩
  rw [← hT7]; rw [← hT7] at i7 x7 y7 z7
  refine v_aload_n C 0 rfl rfl dX4_init_57 ?_
  refine v_iconst C 3 (by decide) dX4_init_58 ?_
  refine v_putI C fl_RX4_44 i7.1 rfl rfl dX4_init_59 ?_
  have i8 := i7.int h0 (f := 37) (v := 3)
  have x8 : MXF T3 (sI T7 37 x0 3) m a9 a10 a12 a13 r := x7
  have y8 : hR (sI T7 37 x0 3) 33 x0 = some m := y7
  have z8 : ∀ i, aR (sI T7 37 x0 3) b2 i = none := z7
  obtain ⟨T8, hT8⟩ : ∃ Tz, Tz = (sI T7 37 x0 3) := ⟨_, rfl⟩
  rw [← hT8]; rw [← hT8] at i8 x8 y8 z8
  refine v_aload_n C 0 rfl rfl dX4_init_62 ?_
  refine v_iconst C 2 (by decide) dX4_init_63 ?_
  refine v_putI C fl_RX4_47 i8.1 rfl rfl dX4_init_64 ?_
  have i9 := i8.int h0 (f := 38) (v := 2)
  have x9 : MXF T3 (sI T8 38 x0 2) m a9 a10 a12 a13 r := x8
  have y9 : hR (sI T8 38 x0 2) 33 x0 = some m := y8
  have z9 : ∀ i, aR (sI T8 38 x0 2) b2 i = none := z8
  obtain ⟨T9, hT9⟩ : ∃ Tz, Tz = (sI T8 38 x0 2) := ⟨_, rfl⟩
  rw [← hT9]; rw [← hT9] at i9 x9 y9 z9
  have hb01 : b0 ≠ b1 := fun z => by have h9 : hK T9 b0 = 13 := (i9.2.2.1 _ (List.mem_of_getElem? (i := 2) rfl)).2.1; have h8 : hK T9 b1 = 14 := (i9.2.2.1 _ (List.mem_of_getElem? (i := 1) rfl)).2.1; rw [z, h8] at h9; exact absurd h9 (by decide)
  have hb20 : b2 ≠ b0 := fun z => by have h9 : hK T9 b2 = 15 := (i9.2.2.1 _ (List.mem_of_getElem? (i := 0) rfl)).2.1; have h8 : hK T9 b0 = 13 := (i9.2.2.1 _ (List.mem_of_getElem? (i := 2) rfl)).2.1; rw [z, h8] at h9; exact absurd h9 (by decide)
  have hb21 : b2 ≠ b1 := fun z => by have h9 : hK T9 b2 = 15 := (i9.2.2.1 _ (List.mem_of_getElem? (i := 0) rfl)).2.1; have h8 : hK T9 b1 = 14 := (i9.2.2.1 _ (List.mem_of_getElem? (i := 1) rfl)).2.1; rw [z, h8] at h9; exact absurd h9 (by decide)
  refine v_iconst C 0 (by decide) dX4_init_67 ?_
  refine v_istore_n C [(1, .int 0), (0, .ref x0)] (by decide) rfl rfl dX4_init_68 ?_
  have ca : CK 1 T9 b0 0 (fun _ => 0) := CK.zero
  refine v_iload_n C 0 rfl rfl dX4_init_69 ?_
  refine v_aload_n C 1 rfl rfl dX4_init_70 ?_
  refine v_getR C b0 fl_RX4_11 i9.1 (i9.2.2.1 _ (List.mem_of_getElem? (i := 2) rfl)).1 dX4_init_71 ?_
  refine v_alen C 4 (kle (show hK T9 b0 = 13 from (i9.2.2.1 _ (List.mem_of_getElem? (i := 2) rfl)).2.1) (by decide)) (kge (show hK T9 b0 = 13 from (i9.2.2.1 _ (List.mem_of_getElem? (i := 2) rfl)).2.1) (by decide)) (by rw [(i9.2.2.1 _ (List.mem_of_getElem? (i := 2) rfl)).2.2.2.2.1]; rfl) dX4_init_74 ?_
  refine v_icmp_ge C 97 (by decide) dX4_init_75 (fun q => absurd q (by decide)) (fun _ => ?_)
  refine v_aload_n C 1 rfl rfl dX4_init_78 ?_
  refine v_getR C b0 fl_RX4_11 i9.1 (i9.2.2.1 _ (List.mem_of_getElem? (i := 2) rfl)).1 dX4_init_79 ?_
  refine v_iload_n C 0 rfl rfl dX4_init_82 ?_
  refine v_new C nl_RX4_9 (by show 0 + 1 + 1 + 1 + 1 + 8 + 1 ≤ 20; omega) (by show 0 + 4 + 4 + 60 + 8 + 42 + 5 ≤ 150; omega) dX4_init_83 (fun c0 hc0 => ?_)
  refine v_dup C rfl dX4_init_86 ?_
  refine v_callIN C (st := [.ref c0, .int 0, .ref b0]) [] (c_X0_init l (nO T9 c0 1) c0 hK_nO1) mn_RX4_50 mii_yX0_init rfl rfl (Nat.le_of_ble_eq_true rfl) (Nat.le_of_ble_eq_true rfl) (Nat.le_of_ble_eq_true rfl) (by show 0 + 1 + 1 + 1 + 1 + 8 + 1 + 0 ≤ 20; omega) (by show 0 + 4 + 4 + 60 + 8 + 42 + 5 + 0 ≤ 150; omega) dX4_init_87 (fun u h => ?_) _ rfl
  subst h
  refine v_aastj C 0 rfl ((hK_nO2 (ne_fresh (show hK T9 b0 = 13 from (i9.2.2.1 _ (List.mem_of_getElem? (i := 2) rfl)).2.1) (by decide) hc0)).trans (show hK T9 b0 = 13 from (i9.2.2.1 _ (List.mem_of_getElem? (i := 2) rfl)).2.1)) hK_nO1 (by decide) (vpi ((i9.2.2.1 _ (List.mem_of_getElem? (i := 2) rfl)).2.2.2.2.1 : hN T9 b0 = 4) (show vp_in (nI 0) 4 from vp_in_nI (by decide) (by decide))) dX4_init_90 ?_
  have i10 := i9.row (kd := 1) (b := b0) (j := 0) (v := some c0) (by decide) hc0 (i9.2.2.1 _ (List.mem_of_getElem? (i := 2) rfl)).2.2.2.2.2.2
  have x10 := x9.row (kd := 1) (b := b0) (j := 0) (v := some c0) hc0 (by rw [show hK T9 b0 = 13 from (i9.2.2.1 _ (List.mem_of_getElem? (i := 2) rfl)).2.1]; decide)
  have y10 : hR (tR (nO T9 c0 1) b0 0 (some c0)) 33 x0 = some m := (hR_nO2 (kd := 1) (ne_fresh i9.1 (by decide) hc0)).trans y9
  have z10 : ∀ i, aR (tR (nO T9 c0 1) b0 0 (some c0)) b2 i = none := fun i => (congrFun (aR_tR2 hb20) i).trans (z9 i)
  have q10 := ca.step hc0 (by decide)
  obtain ⟨T10, hT10⟩ : ∃ Tz, Tz = (tR (nO T9 c0 1) b0 0 (some c0)) := ⟨_, rfl⟩
  rw [← hT10]; rw [← hT10] at i10 x10 y10 z10 q10
  refine v_iinc C 1 0 [(1, .int 1), (0, .ref x0)] rfl (by decide) (by decide) rfl dX4_init_91 ?_
  refine v_goto C 69 (by decide) dX4_init_94 ?_
  refine v_iload_n C 0 rfl rfl dX4_init_69 ?_
  refine v_aload_n C 1 rfl rfl dX4_init_70 ?_
  refine v_getR C b0 fl_RX4_11 i10.1 (i10.2.2.1 _ (List.mem_of_getElem? (i := 2) rfl)).1 dX4_init_71 ?_
  refine v_alen C 4 (kle (show hK T10 b0 = 13 from (i10.2.2.1 _ (List.mem_of_getElem? (i := 2) rfl)).2.1) (by decide)) (kge (show hK T10 b0 = 13 from (i10.2.2.1 _ (List.mem_of_getElem? (i := 2) rfl)).2.1) (by decide)) (by rw [(i10.2.2.1 _ (List.mem_of_getElem? (i := 2) rfl)).2.2.2.2.1]; rfl) dX4_init_74 ?_
  refine v_icmp_ge C 97 (by decide) dX4_init_75 (fun q => absurd q (by decide)) (fun _ => ?_)
  refine v_aload_n C 1 rfl rfl dX4_init_78 ?_
  refine v_getR C b0 fl_RX4_11 i10.1 (i10.2.2.1 _ (List.mem_of_getElem? (i := 2) rfl)).1 dX4_init_79 ?_
  refine v_iload_n C 0 rfl rfl dX4_init_82 ?_
  refine v_new C nl_RX4_9 (by show 0 + 1 + 1 + 1 + 1 + 8 + 1 + 1 ≤ 20; omega) (by show 0 + 4 + 4 + 60 + 8 + 42 + 5 + 5 ≤ 150; omega) dX4_init_83 (fun c1 hc1 => ?_)
  refine v_dup C rfl dX4_init_86 ?_
  refine v_callIN C (st := [.ref c1, .int 1, .ref b0]) [] (c_X0_init l (nO T10 c1 1) c1 hK_nO1) mn_RX4_50 mii_yX0_init rfl rfl (Nat.le_of_ble_eq_true rfl) (Nat.le_of_ble_eq_true rfl) (Nat.le_of_ble_eq_true rfl) (by show 0 + 1 + 1 + 1 + 1 + 8 + 1 + 1 + 0 ≤ 20; omega) (by show 0 + 4 + 4 + 60 + 8 + 42 + 5 + 5 + 0 ≤ 150; omega) dX4_init_87 (fun u h => ?_) _ rfl
  subst h
  refine v_aastj C 1 rfl ((hK_nO2 (ne_fresh (show hK T10 b0 = 13 from (i10.2.2.1 _ (List.mem_of_getElem? (i := 2) rfl)).2.1) (by decide) hc1)).trans (show hK T10 b0 = 13 from (i10.2.2.1 _ (List.mem_of_getElem? (i := 2) rfl)).2.1)) hK_nO1 (by decide) (vpi ((i10.2.2.1 _ (List.mem_of_getElem? (i := 2) rfl)).2.2.2.2.1 : hN T10 b0 = 4) (show vp_in (nI 1) 4 from vp_in_nI (by decide) (by decide))) dX4_init_90 ?_
  have i11 := i10.row (kd := 1) (b := b0) (j := 1) (v := some c1) (by decide) hc1 (i10.2.2.1 _ (List.mem_of_getElem? (i := 2) rfl)).2.2.2.2.2.2
  have x11 := x10.row (kd := 1) (b := b0) (j := 1) (v := some c1) hc1 (by rw [show hK T10 b0 = 13 from (i10.2.2.1 _ (List.mem_of_getElem? (i := 2) rfl)).2.1]; decide)
  have y11 : hR (tR (nO T10 c1 1) b0 1 (some c1)) 33 x0 = some m := (hR_nO2 (kd := 1) (ne_fresh i10.1 (by decide) hc1)).trans y10
  have z11 : ∀ i, aR (tR (nO T10 c1 1) b0 1 (some c1)) b2 i = none := fun i => (congrFun (aR_tR2 hb20) i).trans (z10 i)
  have q11 := q10.step hc1 (by decide)
  obtain ⟨T11, hT11⟩ : ∃ Tz, Tz = (tR (nO T10 c1 1) b0 1 (some c1)) := ⟨_, rfl⟩
  rw [← hT11]; rw [← hT11] at i11 x11 y11 z11 q11
  refine v_iinc C 2 0 [(1, .int 2), (0, .ref x0)] rfl (by decide) (by decide) rfl dX4_init_91 ?_
  refine v_goto C 69 (by decide) dX4_init_94 ?_
  refine v_iload_n C 0 rfl rfl dX4_init_69 ?_
  refine v_aload_n C 1 rfl rfl dX4_init_70 ?_
  refine v_getR C b0 fl_RX4_11 i11.1 (i11.2.2.1 _ (List.mem_of_getElem? (i := 2) rfl)).1 dX4_init_71 ?_
  refine v_alen C 4 (kle (show hK T11 b0 = 13 from (i11.2.2.1 _ (List.mem_of_getElem? (i := 2) rfl)).2.1) (by decide)) (kge (show hK T11 b0 = 13 from (i11.2.2.1 _ (List.mem_of_getElem? (i := 2) rfl)).2.1) (by decide)) (by rw [(i11.2.2.1 _ (List.mem_of_getElem? (i := 2) rfl)).2.2.2.2.1]; rfl) dX4_init_74 ?_
  refine v_icmp_ge C 97 (by decide) dX4_init_75 (fun q => absurd q (by decide)) (fun _ => ?_)
  refine v_aload_n C 1 rfl rfl dX4_init_78 ?_
  refine v_getR C b0 fl_RX4_11 i11.1 (i11.2.2.1 _ (List.mem_of_getElem? (i := 2) rfl)).1 dX4_init_79 ?_
  refine v_iload_n C 0 rfl rfl dX4_init_82 ?_
  refine v_new C nl_RX4_9 (by show 0 + 1 + 1 + 1 + 1 + 8 + 1 + 1 + 1 ≤ 20; omega) (by show 0 + 4 + 4 + 60 + 8 + 42 + 5 + 5 + 5 ≤ 150; omega) dX4_init_83 (fun c2 hc2 => ?_)
  refine v_dup C rfl dX4_init_86 ?_
  refine v_callIN C (st := [.ref c2, .int 2, .ref b0]) [] (c_X0_init l (nO T11 c2 1) c2 hK_nO1) mn_RX4_50 mii_yX0_init rfl rfl (Nat.le_of_ble_eq_true rfl) (Nat.le_of_ble_eq_true rfl) (Nat.le_of_ble_eq_true rfl) (by show 0 + 1 + 1 + 1 + 1 + 8 + 1 + 1 + 1 + 0 ≤ 20; omega) (by show 0 + 4 + 4 + 60 + 8 + 42 + 5 + 5 + 5 + 0 ≤ 150; omega) dX4_init_87 (fun u h => ?_) _ rfl
  subst h
  refine v_aastj C 2 rfl ((hK_nO2 (ne_fresh (show hK T11 b0 = 13 from (i11.2.2.1 _ (List.mem_of_getElem? (i := 2) rfl)).2.1) (by decide) hc2)).trans (show hK T11 b0 = 13 from (i11.2.2.1 _ (List.mem_of_getElem? (i := 2) rfl)).2.1)) hK_nO1 (by decide) (vpi ((i11.2.2.1 _ (List.mem_of_getElem? (i := 2) rfl)).2.2.2.2.1 : hN T11 b0 = 4) (show vp_in (nI 2) 4 from vp_in_nI (by decide) (by decide))) dX4_init_90 ?_
  have i12 := i11.row (kd := 1) (b := b0) (j := 2) (v := some c2) (by decide) hc2 (i11.2.2.1 _ (List.mem_of_getElem? (i := 2) rfl)).2.2.2.2.2.2
  have x12 := x11.row (kd := 1) (b := b0) (j := 2) (v := some c2) hc2 (by rw [show hK T11 b0 = 13 from (i11.2.2.1 _ (List.mem_of_getElem? (i := 2) rfl)).2.1]; decide)
  have y12 : hR (tR (nO T11 c2 1) b0 2 (some c2)) 33 x0 = some m := (hR_nO2 (kd := 1) (ne_fresh i11.1 (by decide) hc2)).trans y11
  have z12 : ∀ i, aR (tR (nO T11 c2 1) b0 2 (some c2)) b2 i = none := fun i => (congrFun (aR_tR2 hb20) i).trans (z11 i)
  have q12 := q11.step hc2 (by decide)
  obtain ⟨T12, hT12⟩ : ∃ Tz, Tz = (tR (nO T11 c2 1) b0 2 (some c2)) := ⟨_, rfl⟩
  rw [← hT12]; rw [← hT12] at i12 x12 y12 z12 q12
  refine v_iinc C 3 0 [(1, .int 3), (0, .ref x0)] rfl (by decide) (by decide) rfl dX4_init_91 ?_
  refine v_goto C 69 (by decide) dX4_init_94 ?_
  refine v_iload_n C 0 rfl rfl dX4_init_69 ?_
  refine v_aload_n C 1 rfl rfl dX4_init_70 ?_
  refine v_getR C b0 fl_RX4_11 i12.1 (i12.2.2.1 _ (List.mem_of_getElem? (i := 2) rfl)).1 dX4_init_71 ?_
  refine v_alen C 4 (kle (show hK T12 b0 = 13 from (i12.2.2.1 _ (List.mem_of_getElem? (i := 2) rfl)).2.1) (by decide)) (kge (show hK T12 b0 = 13 from (i12.2.2.1 _ (List.mem_of_getElem? (i := 2) rfl)).2.1) (by decide)) (by rw [(i12.2.2.1 _ (List.mem_of_getElem? (i := 2) rfl)).2.2.2.2.1]; rfl) dX4_init_74 ?_
  refine v_icmp_ge C 97 (by decide) dX4_init_75 (fun q => absurd q (by decide)) (fun _ => ?_)
  refine v_aload_n C 1 rfl rfl dX4_init_78 ?_
  refine v_getR C b0 fl_RX4_11 i12.1 (i12.2.2.1 _ (List.mem_of_getElem? (i := 2) rfl)).1 dX4_init_79 ?_
  refine v_iload_n C 0 rfl rfl dX4_init_82 ?_
  refine v_new C nl_RX4_9 (by show 0 + 1 + 1 + 1 + 1 + 8 + 1 + 1 + 1 + 1 ≤ 20; omega) (by show 0 + 4 + 4 + 60 + 8 + 42 + 5 + 5 + 5 + 5 ≤ 150; omega) dX4_init_83 (fun c3 hc3 => ?_)
  refine v_dup C rfl dX4_init_86 ?_
  refine v_callIN C (st := [.ref c3, .int 3, .ref b0]) [] (c_X0_init l (nO T12 c3 1) c3 hK_nO1) mn_RX4_50 mii_yX0_init rfl rfl (Nat.le_of_ble_eq_true rfl) (Nat.le_of_ble_eq_true rfl) (Nat.le_of_ble_eq_true rfl) (by show 0 + 1 + 1 + 1 + 1 + 8 + 1 + 1 + 1 + 1 + 0 ≤ 20; omega) (by show 0 + 4 + 4 + 60 + 8 + 42 + 5 + 5 + 5 + 5 + 0 ≤ 150; omega) dX4_init_87 (fun u h => ?_) _ rfl
  subst h
  refine v_aastj C 3 rfl ((hK_nO2 (ne_fresh (show hK T12 b0 = 13 from (i12.2.2.1 _ (List.mem_of_getElem? (i := 2) rfl)).2.1) (by decide) hc3)).trans (show hK T12 b0 = 13 from (i12.2.2.1 _ (List.mem_of_getElem? (i := 2) rfl)).2.1)) hK_nO1 (by decide) (vpi ((i12.2.2.1 _ (List.mem_of_getElem? (i := 2) rfl)).2.2.2.2.1 : hN T12 b0 = 4) (show vp_in (nI 3) 4 from vp_in_nI (by decide) (by decide))) dX4_init_90 ?_
  have i13 := i12.row (kd := 1) (b := b0) (j := 3) (v := some c3) (by decide) hc3 (i12.2.2.1 _ (List.mem_of_getElem? (i := 2) rfl)).2.2.2.2.2.2
  have x13 := x12.row (kd := 1) (b := b0) (j := 3) (v := some c3) hc3 (by rw [show hK T12 b0 = 13 from (i12.2.2.1 _ (List.mem_of_getElem? (i := 2) rfl)).2.1]; decide)
  have y13 : hR (tR (nO T12 c3 1) b0 3 (some c3)) 33 x0 = some m := (hR_nO2 (kd := 1) (ne_fresh i12.1 (by decide) hc3)).trans y12
  have z13 : ∀ i, aR (tR (nO T12 c3 1) b0 3 (some c3)) b2 i = none := fun i => (congrFun (aR_tR2 hb20) i).trans (z12 i)
  have q13 := q12.step hc3 (by decide)
  obtain ⟨T13, hT13⟩ : ∃ Tz, Tz = (tR (nO T12 c3 1) b0 3 (some c3)) := ⟨_, rfl⟩
  rw [← hT13]; rw [← hT13] at i13 x13 y13 z13 q13
  refine v_iinc C 4 0 [(1, .int 4), (0, .ref x0)] rfl (by decide) (by decide) rfl dX4_init_91 ?_
  refine v_goto C 69 (by decide) dX4_init_94 ?_
  refine v_iload_n C 0 rfl rfl dX4_init_69 ?_
  refine v_aload_n C 1 rfl rfl dX4_init_70 ?_
  refine v_getR C b0 fl_RX4_11 i13.1 (i13.2.2.1 _ (List.mem_of_getElem? (i := 2) rfl)).1 dX4_init_71 ?_
  refine v_alen C 4 (kle (show hK T13 b0 = 13 from (i13.2.2.1 _ (List.mem_of_getElem? (i := 2) rfl)).2.1) (by decide)) (kge (show hK T13 b0 = 13 from (i13.2.2.1 _ (List.mem_of_getElem? (i := 2) rfl)).2.1) (by decide)) (by rw [(i13.2.2.1 _ (List.mem_of_getElem? (i := 2) rfl)).2.2.2.2.1]; rfl) dX4_init_74 ?_
  refine v_icmp_ge C 97 (by decide) dX4_init_75 (fun _ => ?_) (fun q => absurd (by decide) q)
  refine v_iconst C 0 (by decide) dX4_init_97 ?_
  refine v_istore_n C [(1, .int 0), (0, .ref x0)] (by decide) rfl rfl dX4_init_98 ?_
  have da : CK 3 T13 b1 0 (fun _ => 0) := CK.zero
  refine v_iload_n C 0 rfl rfl dX4_init_99 ?_
  refine v_aload_n C 1 rfl rfl dX4_init_100 ?_
  refine v_getR C b1 fl_RX4_17 i13.1 (i13.2.2.1 _ (List.mem_of_getElem? (i := 1) rfl)).1 dX4_init_101 ?_
  refine v_alen C 4 (kle (show hK T13 b1 = 14 from (i13.2.2.1 _ (List.mem_of_getElem? (i := 1) rfl)).2.1) (by decide)) (kge (show hK T13 b1 = 14 from (i13.2.2.1 _ (List.mem_of_getElem? (i := 1) rfl)).2.1) (by decide)) (by rw [(i13.2.2.1 _ (List.mem_of_getElem? (i := 1) rfl)).2.2.2.2.1]; rfl) dX4_init_104 ?_
  refine v_icmp_ge C 127 (by decide) dX4_init_105 (fun q => absurd q (by decide)) (fun _ => ?_)
  refine v_aload_n C 1 rfl rfl dX4_init_108 ?_
  refine v_getR C b1 fl_RX4_17 i13.1 (i13.2.2.1 _ (List.mem_of_getElem? (i := 1) rfl)).1 dX4_init_109 ?_
  refine v_iload_n C 0 rfl rfl dX4_init_112 ?_
  refine v_new C nl_RX4_15 (by show 0 + 1 + 1 + 1 + 1 + 8 + 1 + 1 + 1 + 1 + 1 ≤ 20; omega) (by show 0 + 4 + 4 + 60 + 8 + 42 + 5 + 5 + 5 + 5 + 3 ≤ 150; omega) dX4_init_113 (fun d0 hd0 => ?_)
  refine v_dup C rfl dX4_init_116 ?_
  refine v_callIN C (st := [.ref d0, .int 0, .ref b1]) [] (c_X2_init l (nO T13 d0 3) d0 hK_nO1) mn_RX4_51 mii_yX2_init rfl rfl (Nat.le_of_ble_eq_true rfl) (Nat.le_of_ble_eq_true rfl) (Nat.le_of_ble_eq_true rfl) (by show 0 + 1 + 1 + 1 + 1 + 8 + 1 + 1 + 1 + 1 + 1 + 0 ≤ 20; omega) (by show 0 + 4 + 4 + 60 + 8 + 42 + 5 + 5 + 5 + 5 + 3 + 0 ≤ 150; omega) dX4_init_117 (fun u h => ?_) _ rfl
  subst h
  refine v_aastj C 0 rfl ((hK_nO2 (ne_fresh (show hK T13 b1 = 14 from (i13.2.2.1 _ (List.mem_of_getElem? (i := 1) rfl)).2.1) (by decide) hd0)).trans (show hK T13 b1 = 14 from (i13.2.2.1 _ (List.mem_of_getElem? (i := 1) rfl)).2.1)) hK_nO1 (by decide) (vpi ((i13.2.2.1 _ (List.mem_of_getElem? (i := 1) rfl)).2.2.2.2.1 : hN T13 b1 = 4) (show vp_in (nI 0) 4 from vp_in_nI (by decide) (by decide))) dX4_init_120 ?_
  have i14 := i13.row (kd := 3) (b := b1) (j := 0) (v := some d0) (by decide) hd0 (i13.2.2.1 _ (List.mem_of_getElem? (i := 1) rfl)).2.2.2.2.2.2
  have x14 := x13.row (kd := 3) (b := b1) (j := 0) (v := some d0) hd0 (by rw [show hK T13 b1 = 14 from (i13.2.2.1 _ (List.mem_of_getElem? (i := 1) rfl)).2.1]; decide)
  have y14 : hR (tR (nO T13 d0 3) b1 0 (some d0)) 33 x0 = some m := (hR_nO2 (kd := 3) (ne_fresh i13.1 (by decide) hd0)).trans y13
  have z14 : ∀ i, aR (tR (nO T13 d0 3) b1 0 (some d0)) b2 i = none := fun i => (congrFun (aR_tR2 hb21) i).trans (z13 i)
  have p14 := da.step hd0 (by decide)
  have q14 := q13.oth (kd' := 3) (b' := b1) (j' := 0) (v := some d0) hd0 (by decide) hb01
  obtain ⟨T14, hT14⟩ : ∃ Tz, Tz = (tR (nO T13 d0 3) b1 0 (some d0)) := ⟨_, rfl⟩
  rw [← hT14]; rw [← hT14] at i14 x14 y14 z14 p14 q14
  refine v_iinc C 1 0 [(1, .int 1), (0, .ref x0)] rfl (by decide) (by decide) rfl dX4_init_121 ?_
  refine v_goto C 99 (by decide) dX4_init_124 ?_
  refine v_iload_n C 0 rfl rfl dX4_init_99 ?_
  refine v_aload_n C 1 rfl rfl dX4_init_100 ?_
  refine v_getR C b1 fl_RX4_17 i14.1 (i14.2.2.1 _ (List.mem_of_getElem? (i := 1) rfl)).1 dX4_init_101 ?_
  refine v_alen C 4 (kle (show hK T14 b1 = 14 from (i14.2.2.1 _ (List.mem_of_getElem? (i := 1) rfl)).2.1) (by decide)) (kge (show hK T14 b1 = 14 from (i14.2.2.1 _ (List.mem_of_getElem? (i := 1) rfl)).2.1) (by decide)) (by rw [(i14.2.2.1 _ (List.mem_of_getElem? (i := 1) rfl)).2.2.2.2.1]; rfl) dX4_init_104 ?_
  refine v_icmp_ge C 127 (by decide) dX4_init_105 (fun q => absurd q (by decide)) (fun _ => ?_)
  refine v_aload_n C 1 rfl rfl dX4_init_108 ?_
  refine v_getR C b1 fl_RX4_17 i14.1 (i14.2.2.1 _ (List.mem_of_getElem? (i := 1) rfl)).1 dX4_init_109 ?_
  refine v_iload_n C 0 rfl rfl dX4_init_112 ?_
  refine v_new C nl_RX4_15 (by show 0 + 1 + 1 + 1 + 1 + 8 + 1 + 1 + 1 + 1 + 1 + 1 ≤ 20; omega) (by show 0 + 4 + 4 + 60 + 8 + 42 + 5 + 5 + 5 + 5 + 3 + 3 ≤ 150; omega) dX4_init_113 (fun d1 hd1 => ?_)
  refine v_dup C rfl dX4_init_116 ?_
  refine v_callIN C (st := [.ref d1, .int 1, .ref b1]) [] (c_X2_init l (nO T14 d1 3) d1 hK_nO1) mn_RX4_51 mii_yX2_init rfl rfl (Nat.le_of_ble_eq_true rfl) (Nat.le_of_ble_eq_true rfl) (Nat.le_of_ble_eq_true rfl) (by show 0 + 1 + 1 + 1 + 1 + 8 + 1 + 1 + 1 + 1 + 1 + 1 + 0 ≤ 20; omega) (by show 0 + 4 + 4 + 60 + 8 + 42 + 5 + 5 + 5 + 5 + 3 + 3 + 0 ≤ 150; omega) dX4_init_117 (fun u h => ?_) _ rfl
  subst h
  refine v_aastj C 1 rfl ((hK_nO2 (ne_fresh (show hK T14 b1 = 14 from (i14.2.2.1 _ (List.mem_of_getElem? (i := 1) rfl)).2.1) (by decide) hd1)).trans (show hK T14 b1 = 14 from (i14.2.2.1 _ (List.mem_of_getElem? (i := 1) rfl)).2.1)) hK_nO1 (by decide) (vpi ((i14.2.2.1 _ (List.mem_of_getElem? (i := 1) rfl)).2.2.2.2.1 : hN T14 b1 = 4) (show vp_in (nI 1) 4 from vp_in_nI (by decide) (by decide))) dX4_init_120 ?_
  have i15 := i14.row (kd := 3) (b := b1) (j := 1) (v := some d1) (by decide) hd1 (i14.2.2.1 _ (List.mem_of_getElem? (i := 1) rfl)).2.2.2.2.2.2
  have x15 := x14.row (kd := 3) (b := b1) (j := 1) (v := some d1) hd1 (by rw [show hK T14 b1 = 14 from (i14.2.2.1 _ (List.mem_of_getElem? (i := 1) rfl)).2.1]; decide)
  have y15 : hR (tR (nO T14 d1 3) b1 1 (some d1)) 33 x0 = some m := (hR_nO2 (kd := 3) (ne_fresh i14.1 (by decide) hd1)).trans y14
  have z15 : ∀ i, aR (tR (nO T14 d1 3) b1 1 (some d1)) b2 i = none := fun i => (congrFun (aR_tR2 hb21) i).trans (z14 i)
  have p15 := p14.step hd1 (by decide)
  have q15 := q14.oth (kd' := 3) (b' := b1) (j' := 1) (v := some d1) hd1 (by decide) hb01
  obtain ⟨T15, hT15⟩ : ∃ Tz, Tz = (tR (nO T14 d1 3) b1 1 (some d1)) := ⟨_, rfl⟩
  rw [← hT15]; rw [← hT15] at i15 x15 y15 z15 p15 q15
  refine v_iinc C 2 0 [(1, .int 2), (0, .ref x0)] rfl (by decide) (by decide) rfl dX4_init_121 ?_
  refine v_goto C 99 (by decide) dX4_init_124 ?_
  refine v_iload_n C 0 rfl rfl dX4_init_99 ?_
  refine v_aload_n C 1 rfl rfl dX4_init_100 ?_
  refine v_getR C b1 fl_RX4_17 i15.1 (i15.2.2.1 _ (List.mem_of_getElem? (i := 1) rfl)).1 dX4_init_101 ?_
  refine v_alen C 4 (kle (show hK T15 b1 = 14 from (i15.2.2.1 _ (List.mem_of_getElem? (i := 1) rfl)).2.1) (by decide)) (kge (show hK T15 b1 = 14 from (i15.2.2.1 _ (List.mem_of_getElem? (i := 1) rfl)).2.1) (by decide)) (by rw [(i15.2.2.1 _ (List.mem_of_getElem? (i := 1) rfl)).2.2.2.2.1]; rfl) dX4_init_104 ?_
  refine v_icmp_ge C 127 (by decide) dX4_init_105 (fun q => absurd q (by decide)) (fun _ => ?_)
  refine v_aload_n C 1 rfl rfl dX4_init_108 ?_
  refine v_getR C b1 fl_RX4_17 i15.1 (i15.2.2.1 _ (List.mem_of_getElem? (i := 1) rfl)).1 dX4_init_109 ?_
  refine v_iload_n C 0 rfl rfl dX4_init_112 ?_
  refine v_new C nl_RX4_15 (by show 0 + 1 + 1 + 1 + 1 + 8 + 1 + 1 + 1 + 1 + 1 + 1 + 1 ≤ 20; omega) (by show 0 + 4 + 4 + 60 + 8 + 42 + 5 + 5 + 5 + 5 + 3 + 3 + 3 ≤ 150; omega) dX4_init_113 (fun d2 hd2 => ?_)
  refine v_dup C rfl dX4_init_116 ?_
  refine v_callIN C (st := [.ref d2, .int 2, .ref b1]) [] (c_X2_init l (nO T15 d2 3) d2 hK_nO1) mn_RX4_51 mii_yX2_init rfl rfl (Nat.le_of_ble_eq_true rfl) (Nat.le_of_ble_eq_true rfl) (Nat.le_of_ble_eq_true rfl) (by show 0 + 1 + 1 + 1 + 1 + 8 + 1 + 1 + 1 + 1 + 1 + 1 + 1 + 0 ≤ 20; omega) (by show 0 + 4 + 4 + 60 + 8 + 42 + 5 + 5 + 5 + 5 + 3 + 3 + 3 + 0 ≤ 150; omega) dX4_init_117 (fun u h => ?_) _ rfl
  subst h
  refine v_aastj C 2 rfl ((hK_nO2 (ne_fresh (show hK T15 b1 = 14 from (i15.2.2.1 _ (List.mem_of_getElem? (i := 1) rfl)).2.1) (by decide) hd2)).trans (show hK T15 b1 = 14 from (i15.2.2.1 _ (List.mem_of_getElem? (i := 1) rfl)).2.1)) hK_nO1 (by decide) (vpi ((i15.2.2.1 _ (List.mem_of_getElem? (i := 1) rfl)).2.2.2.2.1 : hN T15 b1 = 4) (show vp_in (nI 2) 4 from vp_in_nI (by decide) (by decide))) dX4_init_120 ?_
  have i16 := i15.row (kd := 3) (b := b1) (j := 2) (v := some d2) (by decide) hd2 (i15.2.2.1 _ (List.mem_of_getElem? (i := 1) rfl)).2.2.2.2.2.2
  have x16 := x15.row (kd := 3) (b := b1) (j := 2) (v := some d2) hd2 (by rw [show hK T15 b1 = 14 from (i15.2.2.1 _ (List.mem_of_getElem? (i := 1) rfl)).2.1]; decide)
  have y16 : hR (tR (nO T15 d2 3) b1 2 (some d2)) 33 x0 = some m := (hR_nO2 (kd := 3) (ne_fresh i15.1 (by decide) hd2)).trans y15
  have z16 : ∀ i, aR (tR (nO T15 d2 3) b1 2 (some d2)) b2 i = none := fun i => (congrFun (aR_tR2 hb21) i).trans (z15 i)
  have p16 := p15.step hd2 (by decide)
  have q16 := q15.oth (kd' := 3) (b' := b1) (j' := 2) (v := some d2) hd2 (by decide) hb01
  obtain ⟨T16, hT16⟩ : ∃ Tz, Tz = (tR (nO T15 d2 3) b1 2 (some d2)) := ⟨_, rfl⟩
  rw [← hT16]; rw [← hT16] at i16 x16 y16 z16 p16 q16
  refine v_iinc C 3 0 [(1, .int 3), (0, .ref x0)] rfl (by decide) (by decide) rfl dX4_init_121 ?_
  refine v_goto C 99 (by decide) dX4_init_124 ?_
  refine v_iload_n C 0 rfl rfl dX4_init_99 ?_
  refine v_aload_n C 1 rfl rfl dX4_init_100 ?_
  refine v_getR C b1 fl_RX4_17 i16.1 (i16.2.2.1 _ (List.mem_of_getElem? (i := 1) rfl)).1 dX4_init_101 ?_
  refine v_alen C 4 (kle (show hK T16 b1 = 14 from (i16.2.2.1 _ (List.mem_of_getElem? (i := 1) rfl)).2.1) (by decide)) (kge (show hK T16 b1 = 14 from (i16.2.2.1 _ (List.mem_of_getElem? (i := 1) rfl)).2.1) (by decide)) (by rw [(i16.2.2.1 _ (List.mem_of_getElem? (i := 1) rfl)).2.2.2.2.1]; rfl) dX4_init_104 ?_
  refine v_icmp_ge C 127 (by decide) dX4_init_105 (fun q => absurd q (by decide)) (fun _ => ?_)
  refine v_aload_n C 1 rfl rfl dX4_init_108 ?_
  refine v_getR C b1 fl_RX4_17 i16.1 (i16.2.2.1 _ (List.mem_of_getElem? (i := 1) rfl)).1 dX4_init_109 ?_
  refine v_iload_n C 0 rfl rfl dX4_init_112 ?_
  refine v_new C nl_RX4_15 (by show 0 + 1 + 1 + 1 + 1 + 8 + 1 + 1 + 1 + 1 + 1 + 1 + 1 + 1 ≤ 20; omega) (by show 0 + 4 + 4 + 60 + 8 + 42 + 5 + 5 + 5 + 5 + 3 + 3 + 3 + 3 ≤ 150; omega) dX4_init_113 (fun d3 hd3 => ?_)
  refine v_dup C rfl dX4_init_116 ?_
  refine v_callIN C (st := [.ref d3, .int 3, .ref b1]) [] (c_X2_init l (nO T16 d3 3) d3 hK_nO1) mn_RX4_51 mii_yX2_init rfl rfl (Nat.le_of_ble_eq_true rfl) (Nat.le_of_ble_eq_true rfl) (Nat.le_of_ble_eq_true rfl) (by show 0 + 1 + 1 + 1 + 1 + 8 + 1 + 1 + 1 + 1 + 1 + 1 + 1 + 1 + 0 ≤ 20; omega) (by show 0 + 4 + 4 + 60 + 8 + 42 + 5 + 5 + 5 + 5 + 3 + 3 + 3 + 3 + 0 ≤ 150; omega) dX4_init_117 (fun u h => ?_) _ rfl
  subst h
  refine v_aastj C 3 rfl ((hK_nO2 (ne_fresh (show hK T16 b1 = 14 from (i16.2.2.1 _ (List.mem_of_getElem? (i := 1) rfl)).2.1) (by decide) hd3)).trans (show hK T16 b1 = 14 from (i16.2.2.1 _ (List.mem_of_getElem? (i := 1) rfl)).2.1)) hK_nO1 (by decide) (vpi ((i16.2.2.1 _ (List.mem_of_getElem? (i := 1) rfl)).2.2.2.2.1 : hN T16 b1 = 4) (show vp_in (nI 3) 4 from vp_in_nI (by decide) (by decide))) dX4_init_120 ?_
  have i17 := i16.row (kd := 3) (b := b1) (j := 3) (v := some d3) (by decide) hd3 (i16.2.2.1 _ (List.mem_of_getElem? (i := 1) rfl)).2.2.2.2.2.2
  have x17 := x16.row (kd := 3) (b := b1) (j := 3) (v := some d3) hd3 (by rw [show hK T16 b1 = 14 from (i16.2.2.1 _ (List.mem_of_getElem? (i := 1) rfl)).2.1]; decide)
  have y17 : hR (tR (nO T16 d3 3) b1 3 (some d3)) 33 x0 = some m := (hR_nO2 (kd := 3) (ne_fresh i16.1 (by decide) hd3)).trans y16
  have z17 : ∀ i, aR (tR (nO T16 d3 3) b1 3 (some d3)) b2 i = none := fun i => (congrFun (aR_tR2 hb21) i).trans (z16 i)
  have p17 := p16.step hd3 (by decide)
  have q17 := q16.oth (kd' := 3) (b' := b1) (j' := 3) (v := some d3) hd3 (by decide) hb01
  obtain ⟨T17, hT17⟩ : ∃ Tz, Tz = (tR (nO T16 d3 3) b1 3 (some d3)) := ⟨_, rfl⟩
  rw [← hT17]; rw [← hT17] at i17 x17 y17 z17 p17 q17
  refine v_iinc C 4 0 [(1, .int 4), (0, .ref x0)] rfl (by decide) (by decide) rfl dX4_init_121 ?_
  refine v_goto C 99 (by decide) dX4_init_124 ?_
  refine v_iload_n C 0 rfl rfl dX4_init_99 ?_
  refine v_aload_n C 1 rfl rfl dX4_init_100 ?_
  refine v_getR C b1 fl_RX4_17 i17.1 (i17.2.2.1 _ (List.mem_of_getElem? (i := 1) rfl)).1 dX4_init_101 ?_
  refine v_alen C 4 (kle (show hK T17 b1 = 14 from (i17.2.2.1 _ (List.mem_of_getElem? (i := 1) rfl)).2.1) (by decide)) (kge (show hK T17 b1 = 14 from (i17.2.2.1 _ (List.mem_of_getElem? (i := 1) rfl)).2.1) (by decide)) (by rw [(i17.2.2.1 _ (List.mem_of_getElem? (i := 1) rfl)).2.2.2.2.1]; rfl) dX4_init_104 ?_
  refine v_icmp_ge C 127 (by decide) dX4_init_105 (fun _ => ?_) (fun q => absurd (by decide) q)
  exact v_vret C hRT (Nat.le_of_ble_eq_true rfl) (Nat.le_of_ble_eq_true rfl) dX4_init_127 ⟨rfl, ad0 x0 b0 b1 b2 m a9 a10 a12 a13 _ _ r, rfl, iniXA i17 y17 x17 q17 p17 h59 z17, iniXV i17 y17 q17 p17 h59 rfl rfl rfl rfl rfl rfl rfl rfl rfl, i17.2.2.2.2⟩
