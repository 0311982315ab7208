theorem ac_byte : Cond.arrayClass FieldType.byte ∈ wsG := wsG_in 409 (by decide +kernel) (by decide +kernel)
theorem ac_char : Cond.arrayClass FieldType.char ∈ wsG := wsG_in 654 (by decide +kernel) (by decide +kernel)
theorem ac_double : Cond.arrayClass FieldType.double ∈ wsG := wsG_in 1202 (by decide +kernel) (by decide +kernel)
theorem ac_int : Cond.arrayClass FieldType.int ∈ wsG := wsG_in 118 (by decide +kernel) (by decide +kernel)
theorem ac_long : Cond.arrayClass FieldType.long ∈ wsG := wsG_in 117 (by decide +kernel) (by decide +kernel)
theorem hN_nA1 {S : HS} {a kd n : Nat} : hN (nA S a kd n) a = n := by simp [hN, nA, va_up]
theorem vpi {i : Int32} {n m : Nat} (h : n = m) (hv : vp_in i m) : vp_in i n := h ▸ hv
set_option maxRecDepth 100000 in
set_option maxHeartbeats 4000000 in
theorem c_X3_init (l : Launch) (S : HS) (h0 h1 : Nat) (nr : Int32) (hk : hK S h0 = 4) (hk1 : hK S h1 = 3) : cM l yX3_init cX3_init 3 (Option.none : Option Jvm.ClassFile.FieldType) 2 [.ref h0, .int nr, .ref h1] S (pV fun u => ∃ b0, hK S b0 = 0 ∧ trkS S h0 h1 b0 nr = u) 1 512 := by
  refine cM_intro (by decide +kernel) cd_X3_init (Nat.le_of_ble_eq_true rfl) ?_
  intro pP eE sS mM aA bB tT cC G A C hRT hin
  refine V.lvs (lv2 := [(0, .ref h0), (1, .int nr), (2, .ref h1)]) rfl ?_
  refine v_aload_n C 0 rfl rfl dX3_init_0 ?_
  refine v_objInit C oi_RX3_3 (Nat.le_of_ble_eq_true rfl) (Nat.le_of_ble_eq_true rfl) (Nat.le_of_ble_eq_true rfl) dX3_init_1 ?_
  refine v_aload_n C 0 rfl rfl dX3_init_4 ?_
  refine v_iconst C 1 (by decide) dX3_init_5 ?_
  refine v_putI C fl_RX3_9 hk rfl rfl dX3_init_6 ?_
  refine v_aload_n C 0 rfl rfl dX3_init_9 ?_
  refine v_iconst C 1 (by decide) dX3_init_10 ?_
  refine v_putI C fl_RX3_15 hk rfl rfl dX3_init_11 ?_
  refine v_aload_n C 0 rfl rfl dX3_init_14 ?_
  refine v_iconst C (-1) (by decide) dX3_init_15 ?_
  refine v_putI C fl_RX3_19 hk rfl rfl dX3_init_16 ?_
  refine v_aload_n C 0 rfl rfl dX3_init_19 ?_
  refine v_sipush C 512 (by decide) dX3_init_20 ?_
  refine v_newa C 512 (Or.inr (Or.inl ⟨rfl, rfl⟩)) ac_char (by decide) rfl (by decide) (Nat.le_of_ble_eq_true rfl) (Nat.le_of_ble_eq_true rfl) dX3_init_23 (fun b0 hf => ?_)
  have hf0 : hK S b0 = 0 := hf
  refine v_putRF C fl_RX3_22 ((hK_nA2 (n := 512) (ne_fresh hk (by decide) hf0)).trans hk) hin (by decide +kernel) rfl rfl dX3_init_25 ?_
  refine v_aload_n C 0 rfl rfl dX3_init_28 ?_
  refine v_iload_n C 1 rfl rfl dX3_init_29 ?_
  refine v_putIF C fl_RX3_26 ((hK_nA2 (n := 512) (ne_fresh hk (by decide) hf0)).trans hk) hin (by decide +kernel) rfl rfl dX3_init_30 ?_
  refine v_aload_n C 0 rfl rfl dX3_init_33 ?_
  refine v_aload_n C 2 rfl rfl dX3_init_34 ?_
  refine v_getI C (hI S 13 h1) fl_RX3_29 ((hK_nA2 (n := 512) (ne_fresh hk1 (by decide) hf0)).trans hk1) ((hI_sI2 (fun q => absurd q.1 (by decide))).trans rfl) dX3_init_35 ?_
  refine v_putI C fl_RX3_34 ((hK_nA2 (n := 512) (ne_fresh hk (by decide) hf0)).trans hk) rfl rfl dX3_init_38 ?_
  refine v_aload_n C 0 rfl rfl dX3_init_41 ?_
  refine v_bipush C 16 (by decide) dX3_init_42 ?_
  refine v_aload_n C 2 rfl rfl dX3_init_44 ?_
  refine v_getI C (hI S 14 h1) fl_RX3_35 ((hK_nA2 (n := 512) (ne_fresh hk1 (by decide) hf0)).trans hk1) ((hI_sI2 (fun q => absurd q.1 (by decide))).trans ((hI_sI2 (fun q => absurd q.1 (by decide))).trans rfl)) dX3_init_45 ?_
  refine v_imul C dX3_init_48 ?_
  refine v_putI C fl_RX3_38 ((hK_nA2 (n := 512) (ne_fresh hk (by decide) hf0)).trans hk) rfl rfl dX3_init_49 ?_
  refine v_aload_n C 0 rfl rfl dX3_init_52 ?_
  refine v_bipush C 16 (by decide) dX3_init_53 ?_
  refine v_aload_n C 2 rfl rfl dX3_init_55 ?_
  refine v_getI C (hI S 15 h1) fl_RX3_39 ((hK_nA2 (n := 512) (ne_fresh hk1 (by decide) hf0)).trans hk1) ((hI_sI2 (fun q => absurd q.1 (by decide))).trans ((hI_sI2 (fun q => absurd q.1 (by decide))).trans ((hI_sI2 (fun q => absurd q.1 (by decide))).trans rfl))) dX3_init_56 ?_
  refine v_imul C dX3_init_59 ?_
  refine v_putI C fl_RX3_42 ((hK_nA2 (n := 512) (ne_fresh hk (by decide) hf0)).trans hk) rfl rfl dX3_init_60 ?_
  refine v_aload_n C 0 rfl rfl dX3_init_63 ?_
  refine v_getR C b0 fl_RX3_22 ((hK_nA2 (n := 512) (ne_fresh hk (by decide) hf0)).trans hk) hR_sR1 dX3_init_64 ?_
  refine v_iconst C 0 (by decide) dX3_init_67 ?_
  refine v_bipush C 110 (by decide) dX3_init_68 ?_
  refine v_castj C 0 rfl (hK_nA1 (n := 512)) (vpi (hN_nA1 (S := (sI (sI (sI S 22 h0 1) 24 h0 1) 25 h0 (-1))) (a := b0) (kd := 11) (n := 512)) (vp_in_nI (n := 0) (N := 512) (by decide) (by decide))) rfl dX3_init_70 ?_
  refine v_aload_n C 0 rfl rfl dX3_init_71 ?_
  refine v_iconst C 1 (by decide) dX3_init_72 ?_
  refine v_putI C fl_RX3_43 ((hK_nA2 (n := 512) (ne_fresh hk (by decide) hf0)).trans hk) rfl rfl dX3_init_73 ?_
  exact v_vret C hRT (Nat.le_of_ble_eq_true rfl) (Nat.le_of_ble_eq_true rfl) dX3_init_76 ⟨rfl, b0, hf0, rfl⟩
def Old (S T : HS) : Prop := ∀ a, hK S a ≠ 0 → hK T a = hK S a ∧ hN T a = hN S a ∧ (∀ f, hR T f a = hR S f a) ∧ (∀ f, hI T f a = hI S f a) ∧ (∀ f, hJ T f a = hJ S f a) ∧ aI T a = aI S a ∧ aR T a = aR S a ∧ aJ T a = aJ S a
theorem Old.rf {S : HS} : Old S S := fun _ _ => ⟨rfl, rfl, fun _ => rfl, fun _ => rfl, fun _ => rfl, rfl, rfl, rfl⟩
theorem Old.tr {S T U : HS} (h : Old S T) (g : Old T U) : Old S U := fun a ha => by
  obtain ⟨h1, h2, h3, h4, h5, h6, h7, h8⟩ := h a ha
  obtain ⟨g1, g2, g3, g4, g5, g6, g7, g8⟩ := g a (by rw [h1]; exact ha)
  exact ⟨g1.trans h1, g2.trans h2, fun f => (g3 f).trans (h3 f), fun f => (g4 f).trans (h4 f), fun f => (g5 f).trans (h5 f), g6.trans h6, g7.trans h7, g8.trans h8⟩
theorem Old.newO {S : HS} {q kd : Nat} (hq : hK S q = 0) : Old S (nO S q kd) := fun a ha => by
  have hne : a ≠ q := fun z => ha (by rw [z]; exact hq)
  exact ⟨hK_nO2 hne, rfl, fun f => hR_nO2 hne, fun f => hI_nO2 hne, fun f => hJ_nO2 hne, rfl, rfl, rfl⟩
theorem Old.newA {S : HS} {q kd n : Nat} (hq : hK S q = 0) : Old S (nA S q kd n) := fun a ha => by
  have hne : a ≠ q := fun z => ha (by rw [z]; exact hq)
  refine ⟨hK_nA2 hne, by simp [hN, nA, va_up, hne], fun f => rfl, fun f => rfl, fun f => rfl, ?_, ?_, ?_⟩
  all_goals (funext j; simp [aI, aR, aJ, nA, ur, hne])
theorem Old.pI {S T : HS} {q f : Nat} {v : Int32} (hq : hK S q = 0) (h : Old S T) : Old S (sI T f q v) := fun a ha => by
  have hne : a ≠ q := fun z => ha (by rw [z]; exact hq)
  obtain ⟨h1, h2, h3, h4, h5, h6, h7, h8⟩ := h a ha
  exact ⟨h1, h2, h3, fun g => (hI_sI2 (fun z => hne z.2)).trans (h4 g), h5, h6, h7, h8⟩
theorem Old.pJ {S T : HS} {q f : Nat} {v : Int64} (hq : hK S q = 0) (h : Old S T) : Old S (sJ T f q v) := fun a ha => by
  have hne : a ≠ q := fun z => ha (by rw [z]; exact hq)
  obtain ⟨h1, h2, h3, h4, h5, h6, h7, h8⟩ := h a ha
  exact ⟨h1, h2, h3, h4, fun g => (hJ_sJ2 (fun z => hne z.2)).trans (h5 g), h6, h7, h8⟩
theorem Old.pR {S T : HS} {q f : Nat} {v : Option Nat} (hq : hK S q = 0) (h : Old S T) : Old S (sR T f q v) := fun a ha => by
  have hne : a ≠ q := fun z => ha (by rw [z]; exact hq)
  obtain ⟨h1, h2, h3, h4, h5, h6, h7, h8⟩ := h a ha
  exact ⟨h1, h2, fun g => (hR_sR2 (fun z => hne z.2)).trans (h3 g), h4, h5, h6, h7, h8⟩
theorem Old.wI {S T : HS} {q j : Nat} {v : Int32} (hq : hK S q = 0) (h : Old S T) : Old S (tI T q j v) := fun a ha => by
  have hne : a ≠ q := fun z => ha (by rw [z]; exact hq)
  obtain ⟨h1, h2, h3, h4, h5, h6, h7, h8⟩ := h a ha
  exact ⟨h1, h2, h3, h4, h5, (aI_tI2 hne).trans h6, h7, h8⟩
theorem Old.wR {S T : HS} {q j : Nat} {v : Option Nat} (hq : hK S q = 0) (h : Old S T) : Old S (tR T q j v) := fun a ha => by
  have hne : a ≠ q := fun z => ha (by rw [z]; exact hq)
  obtain ⟨h1, h2, h3, h4, h5, h6, h7, h8⟩ := h a ha
  exact ⟨h1, h2, h3, h4, h5, h6, (aR_tR2 hne).trans h7, h8⟩
theorem Old.trk {S : HS} {q0 b0 h1 : Nat} {nr : Int32} (hq : hK S q0 = 0) (hb : hK S b0 = 0) : Old S (trkS (nO S q0 4) q0 h1 b0 nr) := by
  unfold trkS
  refine Old.pI hq (Old.wI hb (Old.pI hq (Old.pI hq (Old.pI hq (Old.pI hq (Old.pR hq ?_))))))
  have h0 : Old S (sI (sI (sI (nO S q0 4) 22 q0 1) 24 q0 1) 25 q0 (-1)) := Old.pI hq (Old.pI hq (Old.pI hq (Old.newO hq)))
  intro a ha
  have hne : a ≠ b0 := fun z => ha (by rw [z]; exact hb)
  obtain ⟨h1, h2, h3, h4, h5, h6, h7, h8⟩ := h0 a ha
  refine ⟨(hK_nA2 (n := 512) hne).trans h1, by rw [← h2]; simp [hN, nA, va_up, hne], h3, h4, h5, ?_, ?_, ?_⟩
  · rw [← h6]; funext j; simp [aI, nA, ur, hne]
  · rw [← h7]; funext j; simp [aR, nA, ur, hne]
  · rw [← h8]; funext j; simp [aJ, nA, ur, hne]
theorem XA.old {S T : HS} {ad : AD} {n : Nat} (h : XA S ad n) (o : Old S T) : XA T ad n :=
  ⟨(o _ (by rw [h.k0]; decide)).1.trans (h.k0),
    (o _ (by rw [h.k1]; decide)).1.trans (h.k1),
    fun i hi => (o _ (by rw [h.k2 i hi]; decide)).1.trans (h.k2 i hi),
    (o _ (by rw [h.k3]; decide)).1.trans (h.k3),
    fun i hi => (o _ (by rw [h.k4 i hi]; decide)).1.trans (h.k4 i hi),
    (o _ (by rw [h.k5]; decide)).1.trans (h.k5),
    fun i hi => (o _ (by rw [h.k6 i hi]; decide)).1.trans (h.k6 i hi),
    fun i hi => (o _ (by rw [h.k7 i hi]; decide)).1.trans (h.k7 i hi),
    (o _ (by rw [h.k8]; decide)).1.trans (h.k8),
    (o _ (by rw [h.k9]; decide)).1.trans (h.k9),
    (o _ (by rw [h.k10]; decide)).1.trans (h.k10),
    fun i hi => (o _ (by rw [h.k11 i hi]; decide)).1.trans (h.k11 i hi),
    (o _ (by rw [h.k12]; decide)).1.trans (h.k12),
    (o _ (by rw [h.k13]; decide)).1.trans (h.k13),
    ((o _ (by rw [h.k0]; decide)).2.2.1 28).trans (h.r28),
    ((o _ (by rw [h.k0]; decide)).2.2.1 29).trans (h.r29),
    ((o _ (by rw [h.k0]; decide)).2.2.1 31).trans (h.r31),
    ((o _ (by rw [h.k0]; decide)).2.2.1 33).trans (h.r33),
    ((o _ (by rw [h.k8]; decide)).2.2.1 7).trans (h.r7),
    ((o _ (by rw [h.k8]; decide)).2.2.1 8).trans (h.r8),
    ((o _ (by rw [h.k8]; decide)).2.2.1 10).trans (h.r10),
    ((o _ (by rw [h.k8]; decide)).2.2.1 11).trans (h.r11),
    fun i hi => ((o _ (by rw [h.k6 i hi]; decide)).2.2.1 26).trans (h.r26 i hi),
    (o _ (by rw [h.k1]; decide)).2.1.trans (h.n1),
    (o _ (by rw [h.k3]; decide)).2.1.trans (h.n3),
    (o _ (by rw [h.k5]; decide)).2.1.trans (h.n5),
    (o _ (by rw [h.k9]; decide)).2.1.trans (h.n9),
    (o _ (by rw [h.k10]; decide)).2.1.trans (h.n10),
    fun i hi => (o _ (by rw [h.k11 i hi]; decide)).2.1.trans (h.n11 i hi),
    (o _ (by rw [h.k12]; decide)).2.1.trans (h.n12),
    (o _ (by rw [h.k13]; decide)).2.1.trans (h.n13),
    fun i hi => (o _ (by rw [h.k7 i hi]; decide)).2.1.trans (h.n7 i hi),
    fun i hi => (congrFun (o _ (by rw [h.k1]; decide)).2.2.2.2.2.2.1 i).trans (h.a1 i hi),
    fun i hi => (congrFun (o _ (by rw [h.k3]; decide)).2.2.2.2.2.2.1 i).trans (h.a3 i hi),
    fun i hi => (congrFun (o _ (by rw [h.k5]; decide)).2.2.2.2.2.2.1 i).trans (h.a5 i hi),
    fun i hi => (congrFun (o _ (by rw [h.k10]; decide)).2.2.2.2.2.2.1 i).trans (h.a10 i hi),
    h.j2,
    h.j4,
    h.j6,
    h.j7,
    h.j11,
    h.j59,
    h.j12,
    h.hn,
    fun i h1 h2 => (congrFun (o _ (by rw [h.k5]; decide)).2.2.2.2.2.2.1 i).trans (h.a5n i h1 h2)⟩
def adU (ad : AD) (n q0 b0 : Nat) : AD := fun i j => if i = 6 ∧ j = n then q0 else if i = 7 ∧ j = n then b0 else ad i j
theorem adU6 {ad : AD} {n q0 b0 : Nat} : adU ad n q0 b0 6 n = q0 := if_pos ⟨rfl, rfl⟩
theorem adU7 {ad : AD} {n q0 b0 : Nat} : adU ad n q0 b0 7 n = b0 := by
  show (if _ then _ else if _ then _ else _) = _
  rw [if_neg (by omega), if_pos ⟨rfl, rfl⟩]
theorem adUo {ad : AD} {n q0 b0 i j : Nat} (h : j ≠ n) : adU ad n q0 b0 i j = ad i j := by
  show (if _ then _ else if _ then _ else _) = _
  rw [if_neg (fun z => h z.2), if_neg (fun z => h z.2)]
theorem adUl {ad : AD} {n q0 b0 i j : Nat} (h : i ≠ 6) (h2 : i ≠ 7) : adU ad n q0 b0 i j = ad i j := by
  show (if _ then _ else if _ then _ else _) = _
  rw [if_neg (fun z => h z.1), if_neg (fun z => h2 z.1)]
theorem upto {P : Nat → Prop} {n : Nat} (h : ∀ i, i < n → P i) (hn : P n) : ∀ i, i < n + 1 → P i := fun i hi => by
  by_cases e : i = n
  · rw [e]; exact hn
  · exact h i (by omega)
theorem XA.add {U : HS} {ad : AD} {n q0 b0 : Nat} {v : Int32} (h : XA U ad n) (hq : hK U q0 = 4) (hb : hK U b0 = 11) (h26 : hR U 26 q0 = some b0) (hn7 : hN U b0 = 512) (hf6 : ∀ i, i < n → ad 6 i ≠ q0) (hf7 : ∀ i, i < n → ad 7 i ≠ b0) (hn : n + 1 ≤ 60) : XA (sI (tR U (ad 5 0) n (some q0)) 32 (ad 0 0) v) (adU ad n q0 b0) (n + 1) :=
  ⟨h.k0,
    h.k1,
    fun i hi => by rw [adUl (by decide) (by decide)]; exact h.k2 i hi,
    h.k3,
    fun i hi => by rw [adUl (by decide) (by decide)]; exact h.k4 i hi,
    h.k5,
    upto (P := fun i => hK U (adU ad n q0 b0 6 i) = 4) (fun i hi => by rw [adUo (by omega)]; exact h.k6 i hi) (by rw [adU6]; exact hq),
    upto (P := fun i => hK U (adU ad n q0 b0 7 i) = 11) (fun i hi => by rw [adUo (by omega)]; exact h.k7 i hi) (by rw [adU7]; exact hb),
    h.k8,
    h.k9,
    h.k10,
    fun i hi => by rw [adUl (by decide) (by decide)]; exact h.k11 i hi,
    h.k12,
    h.k13,
    h.r28,
    h.r29,
    h.r31,
    h.r33,
    h.r7,
    h.r8,
    h.r10,
    h.r11,
    upto (P := fun i => hR U 26 (adU ad n q0 b0 6 i) = some (adU ad n q0 b0 7 i)) (fun i hi => by rw [adUo (by omega), adUo (by omega)]; exact h.r26 i hi) (by rw [adU6, adU7]; exact h26),
    h.n1,
    h.n3,
    h.n5,
    h.n9,
    h.n10,
    fun i hi => by rw [adUl (by decide) (by decide)]; exact h.n11 i hi,
    h.n12,
    h.n13,
    upto (P := fun i => hN U (adU ad n q0 b0 7 i) = 512) (fun i hi => by rw [adUo (by omega)]; exact h.n7 i hi) (by rw [adU7]; exact hn7),
    fun i hi => (congrFun (aR_tR2 (ne_kinds h.k1 h.k5 (by decide))) i).trans ((h.a1 i hi).trans (congrArg some (adUl (by decide) (by decide)).symm)),
    fun i hi => (congrFun (aR_tR2 (ne_kinds h.k3 h.k5 (by decide))) i).trans ((h.a3 i hi).trans (congrArg some (adUl (by decide) (by decide)).symm)),
    upto (P := fun i => aR (tR U (ad 5 0) n (some q0)) (ad 5 0) i = some (adU ad n q0 b0 6 i)) (fun i hi => by rw [adUo (by omega), aR_tR1, if_neg (by omega)]; exact h.a5 i hi) (by rw [adU6, aR_tR1, if_pos rfl]),
    fun i hi => (congrFun (aR_tR2 (ne_kinds h.k10 h.k5 (by decide))) i).trans ((h.a10 i hi).trans (congrArg some (adUl (by decide) (by decide)).symm)),
    fun i hi j hj e => h.j2 i hi j hj (by rw [adUl (by decide) (by decide), adUl (by decide) (by decide)] at e; exact e),
    fun i hi j hj e => h.j4 i hi j hj (by rw [adUl (by decide) (by decide), adUl (by decide) (by decide)] at e; exact e),
    fun i hi j hj e => by
      by_cases ei : i = n <;> by_cases ej : j = n
      · omega
      · rw [ei, adU6, adUo ej] at e; exact absurd e.symm (hf6 j (by omega))
      · rw [ej, adU6, adUo ei] at e; exact absurd e (hf6 i (by omega))
      · rw [adUo ei, adUo ej] at e; exact h.j6 i (by omega) j (by omega) e,
    fun i hi j hj e => by
      by_cases ei : i = n <;> by_cases ej : j = n
      · omega
      · rw [ei, adU7, adUo ej] at e; exact absurd e.symm (hf7 j (by omega))
      · rw [ej, adU7, adUo ei] at e; exact absurd e (hf7 i (by omega))
      · rw [adUo ei, adUo ej] at e; exact h.j7 i (by omega) j (by omega) e,
    fun i hi j hj e => h.j11 i hi j hj (by rw [adUl (by decide) (by decide), adUl (by decide) (by decide)] at e; exact e),
    h.j59,
    h.j12,
    hn,
    fun i h1 h2 => (show aR (tR U (ad 5 0) n (some q0)) (ad 5 0) i = none from by rw [aR_tR1, if_neg (by omega)]; exact h.a5n i (by omega) h2)⟩
theorem hI_nA (S : HS) (b kd n f a : Nat) : hI (nA S b kd n) f a = hI S f a := rfl
theorem hI_sR (S : HS) (g b : Nat) (v : Option Nat) (f a : Nat) : hI (sR S g b v) f a = hI S f a := rfl
theorem XV.old {S T : HS} {ad : AD} {q : AS} (h : XA S ad (cn q 1)) (g : XV S ad q) (o : Old S T) : XV T ad q := by
  have r : ∀ f, hI T f (ad 0 0) = hI S f (ad 0 0) := (o _ (by rw [h.k0]; decide)).2.2.2.1
  have c : ∀ i, i < 4 → ∀ f, hI T f (ad 2 i) = hI S f (ad 2 i) := fun i hi => (o _ (by rw [h.k2 i hi]; decide)).2.2.2.1
  have p : ∀ i, i < 4 → ∀ f, hI T f (ad 4 i) = hI S f (ad 4 i) := fun i hi => (o _ (by rw [h.k4 i hi]; decide)).2.2.2.1
  have t : ∀ i, i < cn q 1 → ∀ f, hI T f (ad 6 i) = hI S f (ad 6 i) := fun i hi => (o _ (by rw [h.k6 i hi]; decide)).2.2.2.1
  have s : ∀ i, i < cn q 1 → aI T (ad 7 i) = aI S (ad 7 i) := fun i hi => (o _ (by rw [h.k7 i hi]; decide)).2.2.2.2.2.1
  exact ⟨(r _).trans g.v30, (r _).trans g.v32, (r _).trans g.v39, (r _).trans g.v40, (r _).trans g.v34, (r _).trans g.v35, (r _).trans g.v36, (r _).trans g.v37, (r _).trans g.v38, fun i hi => (c i hi _).trans (g.c0 i hi), fun i hi k hk => (c i hi _).trans (g.c1 i hi k hk), fun i hi k hk => (p i hi _).trans (g.p i hi k hk), fun i hi => (t i hi _).trans (g.t16 i hi), fun i hi k hk => (t i hi _).trans (g.tv i hi k hk), fun i hi => (t i hi _).trans (g.t24 i hi), fun i hi => (t i hi _).trans (g.t25 i hi), fun i hi => (t i hi _).trans (g.t27 i hi), fun i hi j hj => (congrFun (s i hi) j).trans (g.sg i hi j hj)⟩
/-- what a new track's heap tells -/
theorem trk_f {S : HS} {q0 h1 b0 : Nat} {nr : Int32} (hq : hK S q0 = 0) (hb : hK (nO S q0 4) b0 = 0) (hh1 : h1 ≠ q0) : b0 ≠ q0 ∧ hK S b0 = 0 ∧ (let U := trkS (nO S q0 4) q0 h1 b0 nr; hK U q0 = 4 ∧ hK U b0 = 11 ∧ hR U 26 q0 = some b0 ∧ hN U b0 = 512 ∧ hI U 16 q0 = nr ∧ hI U 17 q0 = hI S 13 h1 ∧ hI U 18 q0 = 16 * hI S 14 h1 ∧ hI U 19 q0 = 16 * hI S 15 h1 ∧ hI U 20 q0 = 0 ∧ hI U 21 q0 = 0 ∧ hI U 22 q0 = 1 ∧ hI U 23 q0 = 0 ∧ hI U 24 q0 = 1 ∧ hI U 25 q0 = -1 ∧ hI U 27 q0 = 1 ∧ aI U b0 0 = 110) := by
  have hne : b0 ≠ q0 := fun z => by rw [z, hK_nO1] at hb; omega
  have hb0 : hK S b0 = 0 := by rw [hK_nO2 hne] at hb; exact hb
  refine ⟨hne, hb0, ?_⟩
  dsimp only
  have k0 : hK (nO S q0 4) q0 = 4 := hK_nO1
  have e1 : ∀ f, hI (nO S q0 4) f h1 = hI S f h1 := fun f => hI_nO2 hh1
  have e2 : ∀ f, hI (nO S q0 4) f q0 = 0 := fun f => hI_nO1
  unfold trkS
  rw [e1, e1, e1]
  have kk : ∀ a, hK (sI (tI (sI (sI (sI (sI (sR (nA (sI (sI (sI (nO S q0 4) 22 q0 1) 24 q0 1) 25 q0 (-1)) b0 11 512) 26 q0 (some b0)) 16 q0 nr) 17 q0 (hI S 13 h1)) 18 q0 (16 * hI S 14 h1)) 19 q0 (16 * hI S 15 h1)) b0 0 110) 27 q0 1) a = hK (nA (nO S q0 4) b0 11 512) a := fun _ => rfl
  refine ⟨?_, ?_, ?_, ?_, ?_, ?_, ?_, ?_, ?_, ?_, ?_, ?_, ?_, ?_, ?_, ?_⟩
  · rw [kk, hK_nA2 (Ne.symm hne)]; exact k0
  · rw [kk]; exact hK_nA1
  · exact hR_sR1
  · exact hN_nA1 (S := (sI (sI (sI (nO S q0 4) 22 q0 1) 24 q0 1) 25 q0 (-1))) (kd := 11)
  all_goals try simp [hI_sI, hI_tI, hI_nA, hI_sR, e2]
  · show aI (tI _ b0 0 110) b0 0 = 110
    rw [aI_tI1, if_pos rfl]
theorem bgnR_def (q : AS) (r : Nat) : bgnR q r 0 = zz q 2 r 0 ∧ bgnR q r 1 = 16 * zz q 2 r 1 ∧ bgnR q r 2 = 16 * zz q 2 r 2 ∧ bgnR q r 3 = 0 ∧ bgnR q r 4 = 0 ∧ bgnR q r 5 = 1 ∧ bgnR q r 6 = 0 ∧ bgnR q r 7 = 0 ∧ bgnR q r 8 = 0 := ⟨rfl, rfl, rfl, rfl, rfl, rfl, rfl, rfl, rfl⟩
theorem XR.add {S : HS} {ad : AD} {q : AS} {q0 b0 r : Nat} (hA : XA S ad (cn q 1)) (hV : XV S ad q) (h4 : cn q 0 ≤ 4) (hr : r < cn q 0) (hq : hK S q0 = 0) (hb : hK (nO S q0 4) b0 = 0) (hn : cn q 1 + 1 ≤ 60) :
    XA (sI (tR (trkS (nO S q0 4) q0 (ad 4 r) b0 (nI (cn q 1))) (ad 5 0) (cn q 1) (some q0)) 32 (ad 0 0) (nI (cn q 1) + 1)) (adU ad (cn q 1) q0 b0) (cn (newA q r) 1) ∧ XV (sI (tR (trkS (nO S q0 4) q0 (ad 4 r) b0 (nI (cn q 1))) (ad 5 0) (cn q 1) (some q0)) 32 (ad 0 0) (nI (cn q 1) + 1)) (adU ad (cn q 1) q0 b0) (newA q r) := by
  have hk4 := hA.k4 r (by omega)
  obtain ⟨hne, hb0, u4, u11, u26, uN, u16, u17, u18, u19, u20, u21, u22, u23, u24, u25, u27, ub⟩ := trk_f (h1 := ad 4 r) (nr := nI (cn q 1)) hq hb (ne_fresh hk4 (by decide) hq)
  have o : Old S (trkS (nO S q0 4) q0 (ad 4 r) b0 (nI (cn q 1))) := Old.trk hq hb0
  have hA1 := hA.old o
  have hV1 := hV.old hA o
  generalize hU : trkS (nO S q0 4) q0 (ad 4 r) b0 (nI (cn q 1)) = U at *
  have f6 : ∀ i, i < cn q 1 → ad 6 i ≠ q0 := fun i hi => ne_fresh (hA.k6 i hi) (by decide) hq
  have f7 : ∀ i, i < cn q 1 → ad 7 i ≠ b0 := fun i hi => ne_fresh (hA.k7 i hi) (by decide) hb0
  have r0 : ∀ a, a ≠ ad 0 0 → ∀ f, hI (sI (tR U (ad 5 0) (cn q 1) (some q0)) 32 (ad 0 0) (nI (cn q 1) + 1)) f a = hI U f a := fun a ha f => hI_sI2 (fun z => ha z.2)
  have r1 : ∀ f, f ≠ 32 → ∀ a, hI (sI (tR U (ad 5 0) (cn q 1) (some q0)) 32 (ad 0 0) (nI (cn q 1) + 1)) f a = hI U f a := fun f hf a => hI_sI2 (fun z => hf z.1)
  refine ⟨hA1.add u4 u11 u26 uN f6 f7 hn, ?_⟩
  have c : ∀ k, k < 100 → k ≠ 1 → cn (newA q r) k = cn q k := fun k h1 h2 => new_cn q r h2 (by omega)
  have z : ∀ i, i < 3 → ∀ j k, zz (newA q r) i j k = zz q i j k := fun i hi j k => new_old q r (by omega)
  obtain ⟨g0, g1, g2, g3, g4, g5, g6, g7, g8⟩ := bgnR_def q r
  refine ⟨?_, ?_, ?_, ?_, ?_, ?_, ?_, ?_, ?_, fun i hi => ?_, fun i hi k hk => ?_, fun i hi k hk => ?_, ?_, ?_, ?_, ?_, ?_, ?_⟩
  · rw [adUl (by decide) (by decide), r1 _ (by decide), c 0 (by decide) (by decide)]; exact hV1.v30
  · rw [adUl (by decide) (by decide), new_cn1]; exact hI_sI1.trans (nI_1 _)
  · rw [adUl (by decide) (by decide), r1 _ (by decide), c 2 (by decide) (by decide)]; exact hV1.v39
  · rw [adUl (by decide) (by decide), r1 _ (by decide), c 3 (by decide) (by decide)]; exact hV1.v40
  · rw [adUl (by decide) (by decide), r1 _ (by decide), z 0 (by decide)]; exact hV1.v34
  · rw [adUl (by decide) (by decide), r1 _ (by decide), z 0 (by decide)]; exact hV1.v35
  · rw [adUl (by decide) (by decide), r1 _ (by decide), z 0 (by decide)]; exact hV1.v36
  · rw [adUl (by decide) (by decide), r1 _ (by decide), z 0 (by decide)]; exact hV1.v37
  · rw [adUl (by decide) (by decide), r1 _ (by decide), z 0 (by decide)]; exact hV1.v38
  · rw [adUl (by decide) (by decide), r1 _ (by decide), c _ (by omega) (by omega)]; exact hV1.c0 i hi
  · rw [adUl (by decide) (by decide), r1 _ (by omega), z 1 (by decide)]; exact hV1.c1 i hi k hk
  · rw [adUl (by decide) (by decide), r1 _ (by omega), z 2 (by decide)]; exact hV1.p i hi k hk
  all_goals rw [new_cn1]
  · refine upto (fun i hi => ?_) ?_
    · rw [adUo (by omega), r1 _ (by decide)]; exact hV1.t16 i hi
    · rw [adU6, r1 _ (by decide)]; exact u16
  · refine upto (fun i hi k hk => ?_) (fun k hk => ?_)
    · rw [adUo (by omega), r1 _ (by omega), new_old q r (by omega)]; exact hV1.tv i hi k hk
    · rw [adU6, r1 _ (by omega), new_row]
      have p0 : hI S 13 (ad 4 r) = iO (zz q 2 r 0) := hV.p r (by omega) 0 (by decide)
      have p1 : hI S 14 (ad 4 r) = iO (zz q 2 r 1) := hV.p r (by omega) 1 (by decide)
      have p2 : hI S 15 (ad 4 r) = iO (zz q 2 r 2) := hV.p r (by omega) 2 (by decide)
      rcases (show k = 0 ∨ k = 1 ∨ k = 2 ∨ k = 3 ∨ k = 4 ∨ k = 5 ∨ k = 6 by omega) with rfl | rfl | rfl | rfl | rfl | rfl | rfl
      · rw [g0, ← p0]; exact u17
      · rw [g1, ← iO_mul, ← p1]; exact u18
      · rw [g2, ← iO_mul, ← p2]; exact u19
      · rw [g3]; exact u20
      · rw [g4]; exact u21
      · rw [g5]; exact u22
      · rw [g6]; exact u23
  · refine upto (fun i hi => ?_) ?_
    · rw [adUo (by omega), r1 _ (by decide), new_old q r (by omega)]; exact hV1.t24 i hi
    · rw [adU6, r1 _ (by decide), new_row]; exact u24
  · refine upto (fun i hi => ?_) ?_
    · rw [adUo (by omega), r1 _ (by decide), new_old q r (by omega), new_old q r (by omega)]; exact hV1.t25 i hi
    · rw [adU6, r1 _ (by decide), new_row]; exact u25
  · refine upto (fun i hi => ?_) ?_
    · rw [adUo (by omega), r1 _ (by decide), new_cn q r (by omega) (by omega)]; exact hV1.t27 i hi
    · rw [adU6, r1 _ (by decide), new_cnt]; exact u27
  · refine upto (fun i hi j hj => ?_) (fun j hj => ?_)
    · rw [new_cn q r (by omega) (by omega)] at hj
      rw [adUo (by omega), new_old q r (by omega)]; exact hV1.sg i hi j hj
    · rw [new_cnt] at hj
      obtain rfl : j = 0 := by omega
      rw [adU7]
      refine Eq.trans (b := 110) ub ?_
      show (110 : Int32) = iO (if 4 = 3 ∧ cn q 1 = cn q 1 then bgnR q r 0 else if 4 = 4 ∧ cn q 1 = cn q 1 ∧ 0 = 0 then 110 else zz q 4 (cn q 1) 0)
      rw [if_neg (by omega), if_pos ⟨rfl, rfl, rfl⟩]
      rfl
theorem XW.old {S T : HS} {ad : AD} {q : AS} {n : Nat} (hA : XA S ad n) (h : XW S ad q) (o : Old S T) : XW T ad q := by
  have o8 := o _ (by rw [hA.k8]; decide : hK S (ad 8 0) ≠ 0)
  have o9 := o _ (by rw [hA.k9]; decide : hK S (ad 9 0) ≠ 0)
  have o13 := o _ (by rw [hA.k13]; decide : hK S (ad 13 0) ≠ 0)
  exact ⟨(o8.2.2.2.1 _).trans h.1, (o8.2.2.2.1 _).trans h.2.1, fun i hi => (congrFun o9.2.2.2.2.2.2.1 i).trans (h.2.2.1 i hi), fun j hj => (congrFun o13.2.2.2.2.2.1 j).trans (h.2.2.2 j hj)⟩
theorem XW.add {S : HS} {ad : AD} {q : AS} {n q0 b0 r : Nat} {v w : Int32} (hA : XA S ad n) (h : XW S ad q) (hq : hK S q0 = 0) (hb : hK S b0 = 0) (hln : ∀ i, i < lcn q → lti q i < n) : XW (sI (tR (trkS (nO S q0 4) q0 (ad 4 r) b0 w) (ad 5 0) n (some q0)) 32 (ad 0 0) v) (adU ad n q0 b0) q := by
  have h1 := XW.old hA h (Old.trk (h1 := ad 4 r) (nr := w) hq hb)
  refine ⟨?_, ?_, fun i hi => ?_, fun j hj => ?_⟩
  · rw [adUl (by decide) (by decide)]; exact (hI_sI2 (fun z => absurd z.1 (by decide))).trans h1.1
  · rw [adUl (by decide) (by decide)]; exact (hI_sI2 (fun z => absurd z.1 (by decide))).trans h1.2.1
  · rw [adUl (by decide) (by decide), adUo (by have := hln i hi; omega)]
    exact (congrFun (aR_tR2 hA.j59.symm) i).trans (h1.2.2.1 i hi)
  · rw [adUl (by decide) (by decide)]; exact h1.2.2.2 j hj
