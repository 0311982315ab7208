/-- how many places below n hold -/
def cntP (p : Nat → Bool) : Nat → Nat
  | 0 => 0
  | n + 1 => cntP p n + (if p n then 1 else 0)
theorem cntP_le (p : Nat → Bool) : ∀ n, cntP p n ≤ n
  | 0 => Nat.le_refl 0
  | n + 1 => by have := cntP_le p n; unfold cntP; split <;> omega
theorem cntP_t {p : Nat → Bool} {n : Nat} (h : p n = true) : cntP p (n + 1) = cntP p n + 1 := by show cntP p n + (if p n then 1 else 0) = _; rw [h]; rfl
theorem cntP_f {p : Nat → Bool} {n : Nat} (h : p n = false) : cntP p (n + 1) = cntP p n := by show cntP p n + (if p n then 1 else 0) = _; rw [h]; rfl
theorem cntP_0 {p : Nat → Bool} : ∀ {n : Nat}, (∀ j, j < n → p j = false) → cntP p n = 0
  | 0, _ => rfl
  | n + 1, h => by rw [cntP_f (h n (Nat.lt_succ_self n))]; exact cntP_0 (fun j hj => h j (by omega))
theorem cntP_cong {p q : Nat → Bool} : ∀ {n : Nat}, (∀ j, j < n → p j = q j) → cntP p n = cntP q n
  | 0, _ => rfl
  | n + 1, h => by
    show cntP p n + (if p n then 1 else 0) = cntP q n + (if q n then 1 else 0)
    rw [cntP_cong (fun j hj => h j (by omega)), h n (Nat.lt_succ_self n)]
/-- the new velocity of a coordinate -/
def pushF (v push passed : Int32) : Int32 := if 0 < 16 * passed then (let r := v + push / (16 * passed); let a := if r < 1600 then r else 1600; if (-1600) < a then a else -1600) else v
/-- a sign behind a track's history -/
def noteS (S : HS) (a b m : Nat) (x : Int32) : HS := sI (tI S b m x) 27 a (nI m + 1)
set_option maxRecDepth 100000 in
set_option maxHeartbeats 4000000 in
theorem c_X3_pushed (l : Launch) (S : HS) (v q t : Int32) : cM l yX3_pushed cX3_pushed 5 (Option.some Jvm.ClassFile.FieldType.int) 2 [.int v, .int q, .int t] S (pI fun r u => pushF v q t = r ∧ S = u) 0 0 := by
  refine cM_intro (by decide +kernel) cd_X3_pushed (Nat.le_of_ble_eq_true rfl) ?_
  intro pP eE sS mM aA bB tT cC G A C hRT hin
  refine V.lvs (lv2 := [(0, .int v), (1, .int q), (2, .int t)]) rfl ?_
  refine v_bipush C 16 (by decide) dX3_pushed_0 ?_
  refine v_iload_n C 2 rfl rfl dX3_pushed_2 ?_
  refine v_imul C dX3_pushed_3 ?_
  refine v_istore_n C [(3, .int (16 * t)), (0, .int v), (1, .int q), (2, .int t)] (by decide) rfl rfl dX3_pushed_4 ?_
  refine v_iload_n C 0 rfl rfl dX3_pushed_5 ?_
  refine v_if_gt C 11 (by decide) dX3_pushed_6 (fun c6 => ?_) (fun c6 => ?_)
  · refine v_iload_n C 1 rfl rfl dX3_pushed_11 ?_
    refine v_iload_n C 2 rfl rfl dX3_pushed_12 ?_
    refine v_iload_n C 0 rfl rfl dX3_pushed_13 ?_
    refine v_idiv C (fun h => absurd (h ▸ c6) (by decide)) dX3_pushed_14 ?_
    refine v_iadd C dX3_pushed_15 ?_
    refine v_istore C [(4, .int (v + (q / (16 * t)))), (3, .int (16 * t)), (0, .int v), (1, .int q), (2, .int t)] (by decide) rfl dX3_pushed_16 ?_
    refine v_sipush C (-1600) (by decide) dX3_pushed_18 ?_
    refine v_sipush C 1600 (by decide) dX3_pushed_21 ?_
    refine v_iload C 0 rfl dX3_pushed_24 ?_
    refine v_min C jm_RX3_74 (Nat.le_of_ble_eq_true rfl) (Nat.le_of_ble_eq_true rfl) (Nat.le_of_ble_eq_true rfl) (Nat.le_of_ble_eq_true rfl) (Nat.le_of_ble_eq_true rfl) dX3_pushed_26 ?_
    refine v_max C jm_RX3_80 (Nat.le_of_ble_eq_true rfl) (Nat.le_of_ble_eq_true rfl) (Nat.le_of_ble_eq_true rfl) (Nat.le_of_ble_eq_true rfl) (Nat.le_of_ble_eq_true rfl) dX3_pushed_29 ?_
    exact v_iret C hRT (Nat.le_of_ble_eq_true rfl) (Nat.le_of_ble_eq_true rfl) dX3_pushed_32 ⟨_, rfl, by simp [pushF, *], rfl⟩
  · refine v_iload_n C 1 rfl rfl dX3_pushed_9 ?_
    exact v_iret C hRT (Nat.le_of_ble_eq_true rfl) (Nat.le_of_ble_eq_true rfl) dX3_pushed_10 ⟨_, rfl, by simp [pushF, *], rfl⟩
set_option maxRecDepth 100000 in
set_option maxHeartbeats 4000000 in
theorem c_X3_note (l : Launch) (S : HS) (h0 b0 m0 : Nat) (x : Int32) (hx : vp_nar .char x = x) (hk : hK S h0 = 4) (hb : hK S b0 = 11) (hrb : hR S 26 h0 = some b0) (hln : hN S b0 = 512) (hm : hI S 27 h0 = nI m0) (hm5 : m0 < 512) : cM l yX3_note cX3_note 2 (Option.none : Option Jvm.ClassFile.FieldType) 2 [.ref h0, .int x] S (pV fun u => noteS S h0 b0 m0 x = u) 0 0 := by
  refine cM_intro (by decide +kernel) cd_X3_note (Nat.le_of_ble_eq_true rfl) ?_
  intro pP eE sS mM aA bB tT cC G A C hRT hin
  refine V.lvs (lv2 := [(0, .ref h0), (1, .int x)]) rfl ?_
  refine v_aload_n C 0 rfl rfl dX3_note_0 ?_
  refine v_getI C (nI m0) fl_RX3_43 hk hm dX3_note_1 ?_
  refine v_if_lt C 39 (by decide) dX3_note_4 (fun q => (nI_pos (by omega) q).elim) (fun c4 => ?_)
  refine v_aload_n C 0 rfl rfl dX3_note_7 ?_
  refine v_getI C (nI m0) fl_RX3_43 hk hm dX3_note_8 ?_
  refine v_aload_n C 0 rfl rfl dX3_note_11 ?_
  refine v_getR C b0 fl_RX3_22 hk hrb dX3_note_12 ?_
  refine v_alen C 512 (kle hb (by decide)) (kge hb (by decide)) (by rw [hln]; rfl) dX3_note_15 ?_
  refine v_icmp_ge C 39 (by decide) dX3_note_16 (fun q => (nI_ge (a := m0) (b := 512) hm5 (by decide) q).elim) (fun c16 => ?_)
  refine v_aload_n C 0 rfl rfl dX3_note_19 ?_
  refine v_getR C b0 fl_RX3_22 hk hrb dX3_note_20 ?_
  refine v_aload_n C 0 rfl rfl dX3_note_23 ?_
  refine v_getI C (nI m0) fl_RX3_43 hk hm dX3_note_24 ?_
  refine v_iload_n C 1 rfl rfl dX3_note_27 ?_
  refine v_castj C m0 (nI_clamp (by omega)) hb (by rw [hln]; exact vp_in_nI hm5 (by decide)) hx dX3_note_28 ?_
  refine v_aload_n C 0 rfl rfl dX3_note_29 ?_
  refine v_dup C rfl dX3_note_30 ?_
  refine v_getI C (nI m0) fl_RX3_43 hk hm dX3_note_31 ?_
  refine v_iconst C 1 (by decide) dX3_note_34 ?_
  refine v_iadd C dX3_note_35 ?_
  refine v_putI C fl_RX3_43 hk rfl rfl dX3_note_36 ?_
  exact v_vret C hRT (Nat.le_of_ble_eq_true rfl) (Nat.le_of_ble_eq_true rfl) dX3_note_39 ⟨rfl, rfl⟩
set_option maxRecDepth 100000 in
set_option maxHeartbeats 4000000 in
theorem c_X3_absorb (l : Launch) (S : HS) (h0 h1 b0 m0 : Nat) (hk1 : hK S h1 = 4) (hk : hK S h0 = 4) (hb : hK S b0 = 11) (hrb : hR S 26 h0 = some b0) (hln : hN S b0 = 512) (hm : hI S 27 h0 = nI m0) (hm5 : m0 < 512) : cM l yX3_absorb cX3_absorb 2 (Option.none : Option Jvm.ClassFile.FieldType) 4 [.ref h0, .ref h1] S (pV fun u => noteS (sI S 22 h0 (hI S 22 h0 + hI S 22 h1)) h0 b0 m0 103 = u) 0 0 := by
  refine cM_intro (by decide +kernel) cd_X3_absorb (Nat.le_of_ble_eq_true rfl) ?_
  intro pP eE sS mM aA bB tT cC G A C hRT hin
  refine V.lvs (lv2 := [(0, .ref h0), (1, .ref h1)]) rfl ?_
  refine v_aload_n C 0 rfl rfl dX3_absorb_0 ?_
  refine v_dup C rfl dX3_absorb_1 ?_
  refine v_getI C (hI S 22 h0) fl_RX3_9 hk rfl dX3_absorb_2 ?_
  refine v_aload_n C 1 rfl rfl dX3_absorb_5 ?_
  refine v_getI C (hI S 22 h1) fl_RX3_9 hk1 rfl dX3_absorb_6 ?_
  refine v_iadd C dX3_absorb_9 ?_
  refine v_putI C fl_RX3_9 hk rfl rfl dX3_absorb_10 ?_
  refine v_aload_n C 0 rfl rfl dX3_absorb_13 ?_
  refine v_bipush C 103 (by decide) dX3_absorb_14 ?_
  refine v_callVv C (st := []) [.int 103] (c_X3_note l (sI S 22 h0 ((hI S 22 h0) + (hI S 22 h1))) h0 b0 m0 103 (by decide) hk hb hrb hln ((hI_sI2 (fun q => absurd q.1 (by decide))).trans hm) hm5) ml_RX3_70 mi_yX3_note hk (by decide) (by decide +kernel) rfl (Nat.le_of_ble_eq_true rfl) (Nat.le_of_ble_eq_true rfl) (Nat.le_of_ble_eq_true rfl) (Nat.le_of_ble_eq_true rfl) (Nat.le_of_ble_eq_true rfl) dX3_absorb_16 (fun u h => ?_) _ rfl
  subst h
  exact v_vret C hRT (Nat.le_of_ble_eq_true rfl) (Nat.le_of_ble_eq_true rfl) dX3_absorb_19 ⟨rfl, rfl⟩
set_option maxRecDepth 100000 in
set_option maxHeartbeats 4000000 in
theorem c_X3_mergeInto (l : Launch) (S : HS) (h0 h1 b0 m0 : Nat) (hne : h1 ≠ h0) (hk1 : hK S h1 = 4) (hk : hK S h0 = 4) (hb : hK S b0 = 11) (hrb : hR S 26 h0 = some b0) (hln : hN S b0 = 512) (hm : hI S 27 h0 = nI m0) (hm5 : m0 < 512) : cM l yX3_mergeInto cX3_mergeInto 2 (Option.none : Option Jvm.ClassFile.FieldType) 4 [.ref h0, .ref h1] S (pV fun u => noteS (sI (sI S 24 h0 0) 25 h0 (hI S 16 h1)) h0 b0 m0 109 = u) 0 0 := by
  refine cM_intro (by decide +kernel) cd_X3_mergeInto (Nat.le_of_ble_eq_true rfl) ?_
  intro pP eE sS mM aA bB tT cC G A C hRT hin
  refine V.lvs (lv2 := [(0, .ref h0), (1, .ref h1)]) rfl ?_
  refine v_aload_n C 0 rfl rfl dX3_mergeInto_0 ?_
  refine v_iconst C 0 (by decide) dX3_mergeInto_1 ?_
  refine v_putI C fl_RX3_15 hk rfl rfl dX3_mergeInto_2 ?_
  refine v_aload_n C 0 rfl rfl dX3_mergeInto_5 ?_
  refine v_aload_n C 1 rfl rfl dX3_mergeInto_6 ?_
  refine v_getI C (hI S 16 h1) fl_RX3_26 hk1 ((hI_sI2 (fun q => absurd q.1 (by decide))).trans rfl) dX3_mergeInto_7 ?_
  refine v_putI C fl_RX3_19 hk rfl rfl dX3_mergeInto_10 ?_
  refine v_aload_n C 0 rfl rfl dX3_mergeInto_13 ?_
  refine v_bipush C 109 (by decide) dX3_mergeInto_14 ?_
  refine v_callVv C (st := []) [.int 109] (c_X3_note l (sI (sI S 24 h0 0) 25 h0 (hI S 16 h1)) h0 b0 m0 109 (by decide) hk hb hrb hln ((hI_sI2 (fun q => absurd q.1 (by decide))).trans ((hI_sI2 (fun q => absurd q.1 (by decide))).trans hm)) hm5) ml_RX3_70 mi_yX3_note hk (by decide) (by decide +kernel) rfl (Nat.le_of_ble_eq_true rfl) (Nat.le_of_ble_eq_true rfl) (Nat.le_of_ble_eq_true rfl) (Nat.le_of_ble_eq_true rfl) (Nat.le_of_ble_eq_true rfl) dX3_mergeInto_16 (fun u h => ?_) _ rfl
  subst h
  exact v_vret C hRT (Nat.le_of_ble_eq_true rfl) (Nat.le_of_ble_eq_true rfl) dX3_mergeInto_19 ⟨rfl, rfl⟩
def missS (S : HS) (a b m : Nat) (lim : Int32) : HS := if hI S 23 a + 1 < lim then noteS (sI S 23 a (hI S 23 a + 1)) a b m 120 else noteS (sI (noteS (sI S 23 a (hI S 23 a + 1)) a b m 120) 24 a 0) a b (m + 1) 108
theorem hI_note {S : HS} {a b m : Nat} {x : Int32} {f a' : Nat} (h : ¬ (f = 27 ∧ a' = a)) : hI (noteS S a b m x) f a' = hI S f a' := by unfold noteS; exact hI_sI2 h
theorem hI_note27 {S : HS} {a b m : Nat} {x : Int32} : hI (noteS S a b m x) 27 a = nI (m + 1) := by unfold noteS; rw [hI_sI1, nI_1]
set_option maxRecDepth 100000 in
set_option maxHeartbeats 4000000 in
theorem c_X3_miss (l : Launch) (S : HS) (h0 b0 m0 : Nat) (lim : Int32) (hk : hK S h0 = 4) (hb : hK S b0 = 11) (hrb : hR S 26 h0 = some b0) (hln : hN S b0 = 512) (hm : hI S 27 h0 = nI m0) (hm5 : m0 + 1 < 512) : cM l yX3_miss cX3_miss 2 (Option.none : Option Jvm.ClassFile.FieldType) 4 [.ref h0, .int lim] S (pV fun u => missS S h0 b0 m0 lim = u) 0 0 := by
  refine cM_intro (by decide +kernel) cd_X3_miss (Nat.le_of_ble_eq_true rfl) ?_
  intro pP eE sS mM aA bB tT cC G A C hRT hin
  refine V.lvs (lv2 := [(0, .ref h0), (1, .int lim)]) rfl ?_
  refine v_aload_n C 0 rfl rfl dX3_miss_0 ?_
  refine v_dup C rfl dX3_miss_1 ?_
  refine v_getI C (hI S 23 h0) fl_RX3_67 hk rfl dX3_miss_2 ?_
  refine v_iconst C 1 (by decide) dX3_miss_5 ?_
  refine v_iadd C dX3_miss_6 ?_
  refine v_putI C fl_RX3_67 hk rfl rfl dX3_miss_7 ?_
  refine v_aload_n C 0 rfl rfl dX3_miss_10 ?_
  refine v_bipush C 120 (by decide) dX3_miss_11 ?_
  refine v_callVv C (st := []) [.int 120] (c_X3_note l (sI S 23 h0 ((hI S 23 h0) + 1)) h0 b0 m0 120 (by decide) hk hb hrb hln ((hI_sI2 (fun q => absurd q.1 (by decide))).trans hm) (by omega)) ml_RX3_70 mi_yX3_note hk (by decide) (by decide +kernel) rfl (Nat.le_of_ble_eq_true rfl) (Nat.le_of_ble_eq_true rfl) (Nat.le_of_ble_eq_true rfl) (Nat.le_of_ble_eq_true rfl) (Nat.le_of_ble_eq_true rfl) dX3_miss_13 (fun u h => ?_) _ rfl
  subst h
  refine v_aload_n C 0 rfl rfl dX3_miss_16 ?_
  refine v_getI C (hI S 23 h0 + 1) fl_RX3_67 hk ((hI_note (fun q => absurd q.1 (by decide))).trans hI_sI1) dX3_miss_17 ?_
  refine v_iload_n C 1 rfl rfl dX3_miss_20 ?_
  refine v_icmp_lt C 35 (by decide) dX3_miss_21 (fun c21 => ?_) (fun c21 => ?_)
  · exact v_vret C hRT (Nat.le_of_ble_eq_true rfl) (Nat.le_of_ble_eq_true rfl) dX3_miss_35 ⟨rfl, by unfold missS; simp [*]⟩
  · refine v_aload_n C 0 rfl rfl dX3_miss_24 ?_
    refine v_iconst C 0 (by decide) dX3_miss_25 ?_
    refine v_putI C fl_RX3_15 hk rfl rfl dX3_miss_26 ?_
    refine v_aload_n C 0 rfl rfl dX3_miss_29 ?_
    refine v_bipush C 108 (by decide) dX3_miss_30 ?_
    refine v_callVv C (st := []) [.int 108] (c_X3_note l (sI (noteS (sI S 23 h0 ((hI S 23 h0) + 1)) h0 b0 m0 120) 24 h0 0) h0 b0 (m0 + 1) 108 (by decide) hk hb hrb hln ((hI_sI2 (fun q => absurd q.1 (by decide))).trans hI_note27) (by omega)) ml_RX3_70 mi_yX3_note hk (by decide) (by decide +kernel) rfl (Nat.le_of_ble_eq_true rfl) (Nat.le_of_ble_eq_true rfl) (Nat.le_of_ble_eq_true rfl) (Nat.le_of_ble_eq_true rfl) (Nat.le_of_ble_eq_true rfl) dX3_miss_32 (fun u h => ?_) _ rfl
    subst h
    exact v_vret C hRT (Nat.le_of_ble_eq_true rfl) (Nat.le_of_ble_eq_true rfl) dX3_miss_35 ⟨rfl, by unfold missS; simp [*]⟩
def cntC (f : Nat → Int32) (x : Int32) (a : Nat) : Nat → Bool := fun j => decide (a ≤ j) && decide (f j = x)
set_option maxRecDepth 100000 in
set_option maxHeartbeats 4000000 in
theorem lp_X3_countSince {l : Launch} {pP : Program} {eE : Env} {sS : State} {mM : MethodId} {aA : Array Value} {bB : List Frame} {tT : Method} {cC : Code} {G : GT} {A : Nat → Prop} {Q : State → Prop}  (S : HS) (h0 b0 m0 a0 : Nat) (fr x : Int32) (hk : hK S h0 = 4) (hb : hK S b0 = 11) (hrb : hR S 26 h0 = some b0) (hln : hN S b0 = 512) (hm : hI S 27 h0 = nI m0) (hm5 : m0 ≤ 512) (ha0 : a0 ≤ m0) (C : Cx pP l eE (rmD 2 0 0) sS mM aA bB tT cC cX3_countSince 5 RX3 G A) (kk : V pP l eE (rmD 2 0 0) sS mM aA bB tT cC 5 G A S 0 0 Q 48 [(0, .ref h0), (1, .int fr), (2, .int x), (3, .int (nI (cntP (cntC (aI S b0) x a0) m0))), (4, .int (nI m0))] []) : ∀ (N : Nat) (i : Nat), (hN9 : m0 + 1 ≤ i + N) → (hi0 : a0 ≤ i) → (hi : i ≤ m0) → V pP l eE (rmD 2 0 0) sS mM aA bB tT cC 5 G A S 0 0 Q 9 [(0, .ref h0), (1, .int fr), (2, .int x), (3, .int (nI (cntP (cntC (aI S b0) x a0) i))), (4, .int (nI i))] [] := by
  intro N
  induction N with
  | zero =>
    intro i hN9 hi0 hi
    exact absurd hN9 (by omega)
  | succ N ih =>
    intro i hN9 hi0 hi
    refine v_iload C 4 rfl dX3_countSince_9 ?_
    refine v_aload_n C 0 rfl rfl dX3_countSince_11 ?_
    refine v_getI C (nI m0) fl_RX3_43 hk hm dX3_countSince_12 ?_
    refine v_icmp_ge C 48 (by decide) dX3_countSince_15 (fun c15 => ?_) (fun c15 => ?_)
    · obtain rfl : i = m0 := by have := nge c15 (by omega); omega
      exact V.sub [0, 1, 2, 3, 4] rfl kk
    · have hlt := nlt c15 (by omega)
      refine v_iload C 4 rfl dX3_countSince_18 ?_
      refine v_aload_n C 0 rfl rfl dX3_countSince_20 ?_
      refine v_getR C b0 fl_RX3_22 hk hrb dX3_countSince_21 ?_
      refine v_alen C 512 (kle hb (by decide)) (kge hb (by decide)) (by rw [hln]; rfl) dX3_countSince_24 ?_
      refine v_icmp_ge C 48 (by decide) dX3_countSince_25 (fun q => (nI_ge (a := i) (b := 512) (by omega) (by decide) q).elim) (fun c25 => ?_)
      refine v_aload_n C 0 rfl rfl dX3_countSince_28 ?_
      refine v_getR C b0 fl_RX3_22 hk hrb dX3_countSince_29 ?_
      refine v_iload C 4 rfl dX3_countSince_32 ?_
      refine v_cald C (aI S b0 i) hb (by rw [hln]; exact vp_in_nI (by omega) (by decide)) (congrArg _ (nI_clamp (by omega))) dX3_countSince_34 ?_
      refine v_iload_n C 2 rfl rfl dX3_countSince_35 ?_
      refine v_icmp_ne C 42 (by decide) dX3_countSince_36 (fun c36 => ?_) (fun c36 => ?_)
      · refine v_iinc C (nI (i + 1)) 4 [(4, .int (nI (i + 1))), (0, .ref h0), (1, .int fr), (2, .int x), (3, .int (nI (cntP (cntC (aI S b0) x a0) i)))] rfl (by rw [← nI_1]; rfl) (by decide) rfl dX3_countSince_42 ?_
        refine v_goto C 9 (by decide) dX3_countSince_45 ?_
        rw [← cntP_f (p := cntC (aI S b0) x a0) (n := i) (by simp [cntC, c36])]
        exact V.sub [1, 2, 3, 4, 0] rfl (ih (i + 1) (by omega) (by omega) (by omega))
      · refine v_iinc C (nI (cntP (cntC (aI S b0) x a0) (i + 1))) 3 [(3, .int (nI (cntP (cntC (aI S b0) x a0) (i + 1)))), (0, .ref h0), (1, .int fr), (2, .int x), (4, .int (nI i))] rfl (by rw [cntP_t (by simp [cntC, hi0, c36]), ← nI_1]; rfl) (by decide) rfl dX3_countSince_39 ?_
        refine v_iinc C (nI (i + 1)) 4 [(4, .int (nI (i + 1))), (3, .int (nI (cntP (cntC (aI S b0) x a0) (i + 1)))), (0, .ref h0), (1, .int fr), (2, .int x)] rfl (by rw [← nI_1]; rfl) (by decide) rfl dX3_countSince_42 ?_
        refine v_goto C 9 (by decide) dX3_countSince_45 ?_
        exact V.sub [2, 3, 4, 1, 0] rfl (ih (i + 1) (by omega) (by omega) (by omega))
set_option maxRecDepth 100000 in
set_option maxHeartbeats 4000000 in
theorem c_X3_countSince (l : Launch) (S : HS) (h0 b0 m0 a0 : Nat) (fr x : Int32) (hfr : (if fr < 0 then 0 else fr) = nI a0) (hk : hK S h0 = 4) (hb : hK S b0 = 11) (hrb : hR S 26 h0 = some b0) (hln : hN S b0 = 512) (hm : hI S 27 h0 = nI m0) (hm5 : m0 ≤ 512) (ha0 : a0 ≤ m0) : cM l yX3_countSince cX3_countSince 5 (Option.some Jvm.ClassFile.FieldType.int) 2 [.ref h0, .int fr, .int x] S (pI fun r u => nI (cntP (cntC (aI S b0) x a0) m0) = r ∧ S = u) 0 0 := by
  refine cM_intro (by decide +kernel) cd_X3_countSince (Nat.le_of_ble_eq_true rfl) ?_
  intro pP eE sS mM aA bB tT cC G A C hRT hin
  refine V.lvs (lv2 := [(0, .ref h0), (1, .int fr), (2, .int x)]) rfl ?_
  refine v_iconst C 0 (by decide) dX3_countSince_0 ?_
  refine v_istore_n C [(3, .int 0), (0, .ref h0), (1, .int fr), (2, .int x)] (by decide) rfl rfl dX3_countSince_1 ?_
  refine v_iload_n C 2 rfl rfl dX3_countSince_2 ?_
  refine v_iconst C 0 (by decide) dX3_countSince_3 ?_
  refine v_max C jm_RX3_80 (Nat.le_of_ble_eq_true rfl) (Nat.le_of_ble_eq_true rfl) (Nat.le_of_ble_eq_true rfl) (Nat.le_of_ble_eq_true rfl) (Nat.le_of_ble_eq_true rfl) dX3_countSince_4 ?_
  refine v_istore C [(4, .int (if fr < 0 then 0 else fr)), (3, .int 0), (0, .ref h0), (1, .int fr), (2, .int x)] (by decide) rfl dX3_countSince_7 ?_
  rw [hfr]
  rw [show (0 : Int32) = nI (cntP (cntC (aI S b0) x a0) a0) by rw [cntP_0 (fun j hj => by simp [cntC]; omega)]; rfl]
  refine V.sub [2, 3, 4, 1, 0] rfl (lp_X3_countSince S h0 b0 m0 a0 fr x hk hb hrb hln hm hm5 ha0 C ?_ (m0 + 1) a0 (by omega) (by omega) ha0)
  refine v_iload_n C 3 rfl rfl dX3_countSince_48 ?_
  exact v_iret C hRT (Nat.le_of_ble_eq_true rfl) (Nat.le_of_ble_eq_true rfl) dX3_countSince_49 ⟨_, rfl, rfl, rfl⟩
/-- a sum of two squares, as longs -/
def sqF (a b : Int32) : Int64 := a.toInt64 * a.toInt64 + b.toInt64 * b.toInt64
/-- a coordinate of a track's predicted position -/
def xAt (S : HS) (h0 : Nat) (t : Int32) : Int32 := hI S 18 h0 + hI S 20 h0 * (t - hI S 17 h0)
def yAt (S : HS) (h0 : Nat) (t : Int32) : Int32 := hI S 19 h0 + hI S 21 h0 * (t - hI S 17 h0)
def dstF (S : HS) (h0 h1 : Nat) : Int64 := sqF (16 * hI S 14 h1 - xAt S h0 (hI S 13 h1)) (16 * hI S 15 h1 - yAt S h0 (hI S 13 h1))
set_option maxRecDepth 100000 in
set_option maxHeartbeats 4000000 in
theorem c_X3_distanceTo (l : Launch) (S : HS) (h0 h1 : Nat) (hk : hK S h0 = 4) (hk1 : hK S h1 = 3) : cM l yX3_distanceTo cX3_distanceTo 2 (Option.some Jvm.ClassFile.FieldType.long) 6 [.ref h0, .ref h1] S (pL fun r u => dstF S h0 h1 = r ∧ S = u) 0 0 := by
  refine cM_intro (by decide +kernel) cd_X3_distanceTo (Nat.le_of_ble_eq_true rfl) ?_
  intro pP eE sS mM aA bB tT cC G A C hRT hin
  refine V.lvs (lv2 := [(0, .ref h0), (1, .ref h1)]) rfl ?_
  refine v_bipush C 16 (by decide) dX3_distanceTo_0 ?_
  refine v_aload_n C 1 rfl rfl dX3_distanceTo_2 ?_
  refine v_getI C (hI S 14 h1) fl_RX3_35 hk1 rfl dX3_distanceTo_3 ?_
  refine v_imul C dX3_distanceTo_6 ?_
  refine v_aload_n C 0 rfl rfl dX3_distanceTo_7 ?_
  refine v_aload_n C 1 rfl rfl dX3_distanceTo_8 ?_
  refine v_getI C (hI S 13 h1) fl_RX3_29 hk1 rfl dX3_distanceTo_9 ?_
  refine v_callVi C (st := [.int (16 * (hI S 14 h1))]) [.int (hI S 13 h1)] (c_X3_xAt l S h0 (hI S 13 h1) hk) ml_RX3_52 mi_yX3_xAt hk (by decide) (by decide +kernel) rfl (Nat.le_of_ble_eq_true rfl) (Nat.le_of_ble_eq_true rfl) (Nat.le_of_ble_eq_true rfl) (Nat.le_of_ble_eq_true rfl) (Nat.le_of_ble_eq_true rfl) dX3_distanceTo_12 (fun r u h => ?_) _ rfl
  obtain ⟨rfl, rfl⟩ := h
  refine v_isub C dX3_distanceTo_15 ?_
  refine v_bipush C 16 (by decide) dX3_distanceTo_16 ?_
  refine v_aload_n C 1 rfl rfl dX3_distanceTo_18 ?_
  refine v_getI C (hI S 15 h1) fl_RX3_39 hk1 rfl dX3_distanceTo_19 ?_
  refine v_imul C dX3_distanceTo_22 ?_
  refine v_aload_n C 0 rfl rfl dX3_distanceTo_23 ?_
  refine v_aload_n C 1 rfl rfl dX3_distanceTo_24 ?_
  refine v_getI C (hI S 13 h1) fl_RX3_29 hk1 rfl dX3_distanceTo_25 ?_
  refine v_callVi C (st := [.int (16 * (hI S 15 h1)), .int ((16 * (hI S 14 h1)) - ((hI S 18 h0) + (hI S 20 h0) * ((hI S 13 h1) - (hI S 17 h0))))]) [.int (hI S 13 h1)] (c_X3_yAt l S h0 (hI S 13 h1) hk) ml_RX3_56 mi_yX3_yAt hk (by decide) (by decide +kernel) rfl (Nat.le_of_ble_eq_true rfl) (Nat.le_of_ble_eq_true rfl) (Nat.le_of_ble_eq_true rfl) (Nat.le_of_ble_eq_true rfl) (Nat.le_of_ble_eq_true rfl) dX3_distanceTo_28 (fun r u h => ?_) _ rfl
  obtain ⟨rfl, rfl⟩ := h
  refine v_isub C dX3_distanceTo_31 ?_
  refine v_callSNl C (st := []) [.int ((16 * (hI S 14 h1)) - ((hI S 18 h0) + (hI S 20 h0) * ((hI S 13 h1) - (hI S 17 h0)))), .int ((16 * (hI S 15 h1)) - ((hI S 19 h0) + (hI S 21 h0) * ((hI S 13 h1) - (hI S 17 h0))))] (c_X4_squareSum l S ((16 * (hI S 14 h1)) - ((hI S 18 h0) + (hI S 20 h0) * ((hI S 13 h1) - (hI S 17 h0)))) ((16 * (hI S 15 h1)) - ((hI S 19 h0) + (hI S 21 h0) * ((hI S 13 h1) - (hI S 17 h0))))) mn_RX3_59 msn_squareSum rfl (Nat.le_of_ble_eq_true rfl) (Nat.le_of_ble_eq_true rfl) (Nat.le_of_ble_eq_true rfl) (Nat.le_of_ble_eq_true rfl) (Nat.le_of_ble_eq_true rfl) dX3_distanceTo_32 (fun r u h => ?_) _ rfl
  obtain ⟨rfl, rfl⟩ := h
  exact v_lret C hRT (Nat.le_of_ble_eq_true rfl) (Nat.le_of_ble_eq_true rfl) dX3_distanceTo_35 ⟨_, rfl, rfl, rfl⟩
def followS (S : HS) (h0 h1 b0 m0 : Nat) (g sl : Int32) : HS :=
  let px := xAt S h0 (hI S 13 h1)
  let py := yAt S h0 (hI S 13 h1)
  let rx := 16 * hI S 14 h1 - px
  let ry := 16 * hI S 15 h1 - py
  let ps := hI S 13 h1 - hI S 17 h0
  noteS (sI (sI (sI (sI (sI (sI (sI S 18 h0 (px + rx * g / 16)) 19 h0 (py + ry * g / 16)) 20 h0 (pushF (hI S 20 h0) (rx * sl) ps)) 21 h0 (pushF (hI S 21 h0) (ry * sl) ps)) 17 h0 (hI S 13 h1)) 22 h0 (hI S 22 h0 + 1)) 23 h0 0) h0 b0 m0 104
set_option maxRecDepth 100000 in
set_option maxHeartbeats 4000000 in
theorem c_X3_follow (l : Launch) (S : HS) (h0 h1 b0 m0 : Nat) (g sl : Int32) (hk1 : hK S h1 = 3) (hk : hK S h0 = 4) (hb : hK S b0 = 11) (hrb : hR S 26 h0 = some b0) (hln : hN S b0 = 512) (hm : hI S 27 h0 = nI m0) (hm5 : m0 < 512) : cM l yX3_follow cX3_follow 9 (Option.none : Option Jvm.ClassFile.FieldType) 4 [.ref h0, .ref h1, .int g, .int sl] S (pV fun u => followS S h0 h1 b0 m0 g sl = u) 0 0 := by
  refine cM_intro (by decide +kernel) cd_X3_follow (Nat.le_of_ble_eq_true rfl) ?_
  intro pP eE sS mM aA bB tT cC G A C hRT hin
  refine V.lvs (lv2 := [(0, .ref h0), (1, .ref h1), (2, .int g), (3, .int sl)]) rfl ?_
  refine v_aload_n C 0 rfl rfl dX3_follow_0 ?_
  refine v_aload_n C 1 rfl rfl dX3_follow_1 ?_
  refine v_getI C (hI S 13 h1) fl_RX3_29 hk1 rfl dX3_follow_2 ?_
  refine v_callVi C (st := []) [.int (hI S 13 h1)] (c_X3_xAt l S h0 (hI S 13 h1) hk) ml_RX3_52 mi_yX3_xAt hk (by decide) (by decide +kernel) rfl (Nat.le_of_ble_eq_true rfl) (Nat.le_of_ble_eq_true rfl) (Nat.le_of_ble_eq_true rfl) (Nat.le_of_ble_eq_true rfl) (Nat.le_of_ble_eq_true rfl) dX3_follow_5 (fun r u h => ?_) _ rfl
  obtain ⟨rfl, rfl⟩ := h
  refine v_istore C [(4, .int ((hI S 18 h0) + (hI S 20 h0) * ((hI S 13 h1) - (hI S 17 h0)))), (0, .ref h0), (1, .ref h1), (2, .int g), (3, .int sl)] (by decide) rfl dX3_follow_8 ?_
  refine v_aload_n C 1 rfl rfl dX3_follow_10 ?_
  refine v_aload_n C 2 rfl rfl dX3_follow_11 ?_
  refine v_getI C (hI S 13 h1) fl_RX3_29 hk1 rfl dX3_follow_12 ?_
  refine v_callVi C (st := []) [.int (hI S 13 h1)] (c_X3_yAt l S h0 (hI S 13 h1) hk) ml_RX3_56 mi_yX3_yAt hk (by decide) (by decide +kernel) rfl (Nat.le_of_ble_eq_true rfl) (Nat.le_of_ble_eq_true rfl) (Nat.le_of_ble_eq_true rfl) (Nat.le_of_ble_eq_true rfl) (Nat.le_of_ble_eq_true rfl) dX3_follow_15 (fun r u h => ?_) _ rfl
  obtain ⟨rfl, rfl⟩ := h
  refine v_istore C [(5, .int ((hI S 19 h0) + (hI S 21 h0) * ((hI S 13 h1) - (hI S 17 h0)))), (4, .int ((hI S 18 h0) + (hI S 20 h0) * ((hI S 13 h1) - (hI S 17 h0)))), (0, .ref h0), (1, .ref h1), (2, .int g), (3, .int sl)] (by decide) rfl dX3_follow_18 ?_
  refine v_bipush C 16 (by decide) dX3_follow_20 ?_
  refine v_aload_n C 3 rfl rfl dX3_follow_22 ?_
  refine v_getI C (hI S 14 h1) fl_RX3_35 hk1 rfl dX3_follow_23 ?_
  refine v_imul C dX3_follow_26 ?_
  refine v_iload C 1 rfl dX3_follow_27 ?_
  refine v_isub C dX3_follow_29 ?_
  refine v_istore C [(6, .int ((16 * (hI S 14 h1)) - ((hI S 18 h0) + (hI S 20 h0) * ((hI S 13 h1) - (hI S 17 h0))))), (5, .int ((hI S 19 h0) + (hI S 21 h0) * ((hI S 13 h1) - (hI S 17 h0)))), (4, .int ((hI S 18 h0) + (hI S 20 h0) * ((hI S 13 h1) - (hI S 17 h0)))), (0, .ref h0), (1, .ref h1), (2, .int g), (3, .int sl)] (by decide) rfl dX3_follow_30 ?_
  refine v_bipush C 16 (by decide) dX3_follow_32 ?_
  refine v_aload_n C 4 rfl rfl dX3_follow_34 ?_
  refine v_getI C (hI S 15 h1) fl_RX3_39 hk1 rfl dX3_follow_35 ?_
  refine v_imul C dX3_follow_38 ?_
  refine v_iload C 1 rfl dX3_follow_39 ?_
  refine v_isub C dX3_follow_41 ?_
  refine v_istore C [(7, .int ((16 * (hI S 15 h1)) - ((hI S 19 h0) + (hI S 21 h0) * ((hI S 13 h1) - (hI S 17 h0))))), (6, .int ((16 * (hI S 14 h1)) - ((hI S 18 h0) + (hI S 20 h0) * ((hI S 13 h1) - (hI S 17 h0))))), (5, .int ((hI S 19 h0) + (hI S 21 h0) * ((hI S 13 h1) - (hI S 17 h0)))), (4, .int ((hI S 18 h0) + (hI S 20 h0) * ((hI S 13 h1) - (hI S 17 h0)))), (0, .ref h0), (1, .ref h1), (2, .int g), (3, .int sl)] (by decide) rfl dX3_follow_42 ?_
  refine v_aload_n C 5 rfl rfl dX3_follow_44 ?_
  refine v_getI C (hI S 13 h1) fl_RX3_29 hk1 rfl dX3_follow_45 ?_
  refine v_aload_n C 4 rfl rfl dX3_follow_48 ?_
  refine v_getI C (hI S 17 h0) fl_RX3_34 hk rfl dX3_follow_49 ?_
  refine v_isub C dX3_follow_52 ?_
  refine v_istore C [(8, .int ((hI S 13 h1) - (hI S 17 h0))), (7, .int ((16 * (hI S 15 h1)) - ((hI S 19 h0) + (hI S 21 h0) * ((hI S 13 h1) - (hI S 17 h0))))), (6, .int ((16 * (hI S 14 h1)) - ((hI S 18 h0) + (hI S 20 h0) * ((hI S 13 h1) - (hI S 17 h0))))), (5, .int ((hI S 19 h0) + (hI S 21 h0) * ((hI S 13 h1) - (hI S 17 h0)))), (4, .int ((hI S 18 h0) + (hI S 20 h0) * ((hI S 13 h1) - (hI S 17 h0)))), (0, .ref h0), (1, .ref h1), (2, .int g), (3, .int sl)] (by decide) rfl dX3_follow_53 ?_
  refine v_aload_n C 5 rfl rfl dX3_follow_55 ?_
  refine v_iload C 4 rfl dX3_follow_56 ?_
  refine v_iload C 2 rfl dX3_follow_58 ?_
  refine v_iload_n C 7 rfl rfl dX3_follow_60 ?_
  refine v_imul C dX3_follow_61 ?_
  refine v_bipush C 16 (by decide) dX3_follow_62 ?_
  refine v_idiv C (by decide) dX3_follow_64 ?_
  refine v_iadd C dX3_follow_65 ?_
  refine v_putI C fl_RX3_38 hk rfl rfl dX3_follow_66 ?_
  refine v_aload_n C 5 rfl rfl dX3_follow_69 ?_
  refine v_iload C 3 rfl dX3_follow_70 ?_
  refine v_iload C 1 rfl dX3_follow_72 ?_
  refine v_iload_n C 7 rfl rfl dX3_follow_74 ?_
  refine v_imul C dX3_follow_75 ?_
  refine v_bipush C 16 (by decide) dX3_follow_76 ?_
  refine v_idiv C (by decide) dX3_follow_78 ?_
  refine v_iadd C dX3_follow_79 ?_
  refine v_putI C fl_RX3_42 hk rfl rfl dX3_follow_80 ?_
  refine v_aload_n C 5 rfl rfl dX3_follow_83 ?_
  refine v_aload_n C 5 rfl rfl dX3_follow_84 ?_
  refine v_getI C (hI S 20 h0) fl_RX3_46 hk ((hI_sI2 (fun q => absurd q.1 (by decide))).trans ((hI_sI2 (fun q => absurd q.1 (by decide))).trans rfl)) dX3_follow_85 ?_
  refine v_iload C 2 rfl dX3_follow_88 ?_
  refine v_iload_n C 8 rfl rfl dX3_follow_90 ?_
  refine v_imul C dX3_follow_91 ?_
  refine v_iload C 0 rfl dX3_follow_92 ?_
  refine v_callSi C (st := [.ref h0]) [.int (hI S 20 h0), .int (((16 * (hI S 14 h1)) - ((hI S 18 h0) + (hI S 20 h0) * ((hI S 13 h1) - (hI S 17 h0)))) * sl), .int ((hI S 13 h1) - (hI S 17 h0))] (c_X3_pushed l (sI (sI S 18 h0 (((hI S 18 h0) + (hI S 20 h0) * ((hI S 13 h1) - (hI S 17 h0))) + ((((16 * (hI S 14 h1)) - ((hI S 18 h0) + (hI S 20 h0) * ((hI S 13 h1) - (hI S 17 h0)))) * g) / 16))) 19 h0 (((hI S 19 h0) + (hI S 21 h0) * ((hI S 13 h1) - (hI S 17 h0))) + ((((16 * (hI S 15 h1)) - ((hI S 19 h0) + (hI S 21 h0) * ((hI S 13 h1) - (hI S 17 h0)))) * g) / 16))) (hI S 20 h0) (((16 * (hI S 14 h1)) - ((hI S 18 h0) + (hI S 20 h0) * ((hI S 13 h1) - (hI S 17 h0)))) * sl) ((hI S 13 h1) - (hI S 17 h0))) ml_RX3_63 ms_yX3_pushed rfl (Nat.le_of_ble_eq_true rfl) (Nat.le_of_ble_eq_true rfl) (Nat.le_of_ble_eq_true rfl) (Nat.le_of_ble_eq_true rfl) (Nat.le_of_ble_eq_true rfl) dX3_follow_94 (fun r u h => ?_) _ rfl
  obtain ⟨rfl, rfl⟩ := h
  refine v_putI C fl_RX3_46 hk rfl rfl dX3_follow_97 ?_
  refine v_aload_n C 5 rfl rfl dX3_follow_100 ?_
  refine v_aload_n C 5 rfl rfl dX3_follow_101 ?_
  refine v_getI C (hI S 21 h0) fl_RX3_49 hk ((hI_sI2 (fun q => absurd q.1 (by decide))).trans ((hI_sI2 (fun q => absurd q.1 (by decide))).trans ((hI_sI2 (fun q => absurd q.1 (by decide))).trans rfl))) dX3_follow_102 ?_
  refine v_iload C 1 rfl dX3_follow_105 ?_
  refine v_iload_n C 8 rfl rfl dX3_follow_107 ?_
  refine v_imul C dX3_follow_108 ?_
  refine v_iload C 0 rfl dX3_follow_109 ?_
  refine v_callSi C (st := [.ref h0]) [.int (hI S 21 h0), .int (((16 * (hI S 15 h1)) - ((hI S 19 h0) + (hI S 21 h0) * ((hI S 13 h1) - (hI S 17 h0)))) * sl), .int ((hI S 13 h1) - (hI S 17 h0))] (c_X3_pushed l (sI (sI (sI S 18 h0 (((hI S 18 h0) + (hI S 20 h0) * ((hI S 13 h1) - (hI S 17 h0))) + ((((16 * (hI S 14 h1)) - ((hI S 18 h0) + (hI S 20 h0) * ((hI S 13 h1) - (hI S 17 h0)))) * g) / 16))) 19 h0 (((hI S 19 h0) + (hI S 21 h0) * ((hI S 13 h1) - (hI S 17 h0))) + ((((16 * (hI S 15 h1)) - ((hI S 19 h0) + (hI S 21 h0) * ((hI S 13 h1) - (hI S 17 h0)))) * g) / 16))) 20 h0 (pushF (hI S 20 h0) (((16 * (hI S 14 h1)) - ((hI S 18 h0) + (hI S 20 h0) * ((hI S 13 h1) - (hI S 17 h0)))) * sl) ((hI S 13 h1) - (hI S 17 h0)))) (hI S 21 h0) (((16 * (hI S 15 h1)) - ((hI S 19 h0) + (hI S 21 h0) * ((hI S 13 h1) - (hI S 17 h0)))) * sl) ((hI S 13 h1) - (hI S 17 h0))) ml_RX3_63 ms_yX3_pushed rfl (Nat.le_of_ble_eq_true rfl) (Nat.le_of_ble_eq_true rfl) (Nat.le_of_ble_eq_true rfl) (Nat.le_of_ble_eq_true rfl) (Nat.le_of_ble_eq_true rfl) dX3_follow_111 (fun r u h => ?_) _ rfl
  obtain ⟨rfl, rfl⟩ := h
  refine v_putI C fl_RX3_49 hk rfl rfl dX3_follow_114 ?_
  refine v_aload_n C 5 rfl rfl dX3_follow_117 ?_
  refine v_aload_n C 6 rfl rfl dX3_follow_118 ?_
  refine v_getI C (hI S 13 h1) fl_RX3_29 hk1 ((hI_sI2 (fun q => absurd q.1 (by decide))).trans ((hI_sI2 (fun q => absurd q.1 (by decide))).trans ((hI_sI2 (fun q => absurd q.1 (by decide))).trans ((hI_sI2 (fun q => absurd q.1 (by decide))).trans rfl)))) dX3_follow_119 ?_
  refine v_putI C fl_RX3_34 hk rfl rfl dX3_follow_122 ?_
  refine v_aload_n C 5 rfl rfl dX3_follow_125 ?_
  refine v_dup C rfl dX3_follow_126 ?_
  refine v_getI C (hI S 22 h0) fl_RX3_9 hk ((hI_sI2 (fun q => absurd q.1 (by decide))).trans ((hI_sI2 (fun q => absurd q.1 (by decide))).trans ((hI_sI2 (fun q => absurd q.1 (by decide))).trans ((hI_sI2 (fun q => absurd q.1 (by decide))).trans ((hI_sI2 (fun q => absurd q.1 (by decide))).trans rfl))))) dX3_follow_127 ?_
  refine v_iconst C 1 (by decide) dX3_follow_130 ?_
  refine v_iadd C dX3_follow_131 ?_
  refine v_putI C fl_RX3_9 hk rfl rfl dX3_follow_132 ?_
  refine v_aload_n C 5 rfl rfl dX3_follow_135 ?_
  refine v_iconst C 0 (by decide) dX3_follow_136 ?_
  refine v_putI C fl_RX3_67 hk rfl rfl dX3_follow_137 ?_
  refine v_aload_n C 5 rfl rfl dX3_follow_140 ?_
  refine v_bipush C 104 (by decide) dX3_follow_141 ?_
  refine v_callVv C (st := []) [.int 104] (c_X3_note l (sI (sI (sI (sI (sI (sI (sI S 18 h0 (((hI S 18 h0) + (hI S 20 h0) * ((hI S 13 h1) - (hI S 17 h0))) + ((((16 * (hI S 14 h1)) - ((hI S 18 h0) + (hI S 20 h0) * ((hI S 13 h1) - (hI S 17 h0)))) * g) / 16))) 19 h0 (((hI S 19 h0) + (hI S 21 h0) * ((hI S 13 h1) - (hI S 17 h0))) + ((((16 * (hI S 15 h1)) - ((hI S 19 h0) + (hI S 21 h0) * ((hI S 13 h1) - (hI S 17 h0)))) * g) / 16))) 20 h0 (pushF (hI S 20 h0) (((16 * (hI S 14 h1)) - ((hI S 18 h0) + (hI S 20 h0) * ((hI S 13 h1) - (hI S 17 h0)))) * sl) ((hI S 13 h1) - (hI S 17 h0)))) 21 h0 (pushF (hI S 21 h0) (((16 * (hI S 15 h1)) - ((hI S 19 h0) + (hI S 21 h0) * ((hI S 13 h1) - (hI S 17 h0)))) * sl) ((hI S 13 h1) - (hI S 17 h0)))) 17 h0 (hI S 13 h1)) 22 h0 ((hI S 22 h0) + 1)) 23 h0 0) h0 b0 m0 104 (by decide) hk hb hrb hln ((hI_sI2 (fun q => absurd q.1 (by decide))).trans ((hI_sI2 (fun q => absurd q.1 (by decide))).trans ((hI_sI2 (fun q => absurd q.1 (by decide))).trans ((hI_sI2 (fun q => absurd q.1 (by decide))).trans ((hI_sI2 (fun q => absurd q.1 (by decide))).trans ((hI_sI2 (fun q => absurd q.1 (by decide))).trans ((hI_sI2 (fun q => absurd q.1 (by decide))).trans hm))))))) hm5) ml_RX3_70 mi_yX3_note hk (by decide) (by decide +kernel) rfl (Nat.le_of_ble_eq_true rfl) (Nat.le_of_ble_eq_true rfl) (Nat.le_of_ble_eq_true rfl) (Nat.le_of_ble_eq_true rfl) (Nat.le_of_ble_eq_true rfl) dX3_follow_143 (fun u h => ?_) _ rfl
  subst h
  exact v_vret C hRT (Nat.le_of_ble_eq_true rfl) (Nat.le_of_ble_eq_true rfl) dX3_follow_146 ⟨rfl, rfl⟩
def trkS (S : HS) (h0 h1 b0 : Nat) (nr : Int32) : HS :=
  sI (tI (sI (sI (sI (sI (sR (nA (sI (sI (sI S 22 h0 1) 24 h0 1) 25 h0 (-1)) b0 11 512) 26 h0 (some b0)) 16 h0 nr) 17 h0 (hI S 13 h1)) 18 h0 (16 * hI S 14 h1)) 19 h0 (16 * hI S 15 h1)) b0 0 110) 27 h0 1
set_option maxRecDepth 100000 in
set_option maxHeartbeats 4000000 in
theorem c_X1_clear (l : Launch) (S : HS) (h0 : Nat) (x : Int64) (hk : hK S h0 = 2) : cM l yX1_clear cX1_clear 3 (Option.none : Option Jvm.ClassFile.FieldType) 2 [.ref h0, .long x] S (pV fun u => sJ (sI (sI S 5 h0 0) 6 h0 0) 9 h0 x = u) 0 0 := by
  refine cM_intro (by decide +kernel) cd_X1_clear (Nat.le_of_ble_eq_true rfl) ?_
  intro pP eE sS mM aA bB tT cC G A C hRT hin
  refine V.lvs (lv2 := [(0, .ref h0), (1, .long x)]) rfl ?_
  refine v_aload_n C 0 rfl rfl dX1_clear_0 ?_
  refine v_iconst C 0 (by decide) dX1_clear_1 ?_
  refine v_putI C fl_RX1_29 hk rfl rfl dX1_clear_2 ?_
  refine v_aload_n C 0 rfl rfl dX1_clear_5 ?_
  refine v_iconst C 0 (by decide) dX1_clear_6 ?_
  refine v_putI C fl_RX1_33 hk rfl rfl dX1_clear_7 ?_
  refine v_aload_n C 0 rfl rfl dX1_clear_10 ?_
  refine v_lload_n C 1 rfl rfl dX1_clear_11 ?_
  refine v_putJ C fl_RX1_36 hk rfl rfl dX1_clear_12 ?_
  exact v_vret C hRT (Nat.le_of_ble_eq_true rfl) (Nat.le_of_ble_eq_true rfl) dX1_clear_15 ⟨rfl, rfl⟩
set_option maxRecDepth 100000 in
set_option maxHeartbeats 4000000 in
theorem c_X1_addTrack (l : Launch) (S : HS) (h0 h1 b0 m0 : Nat) (hk : hK S h0 = 2) (hk1 : hK S h1 = 4) (hb : hK S b0 = 15) (hrb : hR S 7 h0 = some b0) (hln : hN S b0 = 6) (hm : hI S 6 h0 = nI m0) (hm5 : m0 < 6) : cM l yX1_addTrack cX1_addTrack 2 (Option.none : Option Jvm.ClassFile.FieldType) 2 [.ref h0, .ref h1] S (pV fun u => sI (tR S b0 m0 (some h1)) 6 h0 (nI m0 + 1) = u) 0 0 := by
  refine cM_intro (by decide +kernel) cd_X1_addTrack (Nat.le_of_ble_eq_true rfl) ?_
  intro pP eE sS mM aA bB tT cC G A C hRT hin
  refine V.lvs (lv2 := [(0, .ref h0), (1, .ref h1)]) rfl ?_
  refine v_aload_n C 0 rfl rfl dX1_addTrack_0 ?_
  refine v_getI C (nI m0) fl_RX1_33 hk hm dX1_addTrack_1 ?_
  refine v_if_lt C 39 (by decide) dX1_addTrack_4 (fun q => (nI_pos (by omega) q).elim) (fun c4 => ?_)
  refine v_aload_n C 0 rfl rfl dX1_addTrack_7 ?_
  refine v_getI C (nI m0) fl_RX1_33 hk hm dX1_addTrack_8 ?_
  refine v_aload_n C 0 rfl rfl dX1_addTrack_11 ?_
  refine v_getR C b0 fl_RX1_11 hk hrb dX1_addTrack_12 ?_
  refine v_alen C 6 (kle hb (by decide)) (kge hb (by decide)) (by rw [hln]; rfl) dX1_addTrack_15 ?_
  refine v_icmp_ge C 39 (by decide) dX1_addTrack_16 (fun q => (nI_ge (a := m0) (b := 6) hm5 (by decide) q).elim) (fun c16 => ?_)
  refine v_aload_n C 0 rfl rfl dX1_addTrack_19 ?_
  refine v_getR C b0 fl_RX1_11 hk hrb dX1_addTrack_20 ?_
  refine v_aload_n C 0 rfl rfl dX1_addTrack_23 ?_
  refine v_getI C (nI m0) fl_RX1_33 hk hm dX1_addTrack_24 ?_
  refine v_aload_n C 1 rfl rfl dX1_addTrack_27 ?_
  refine v_aastj C m0 (nI_clamp (by omega)) hb hk1 (by decide) (by rw [hln]; exact vp_in_nI hm5 (by decide)) dX1_addTrack_28 ?_
  refine v_aload_n C 0 rfl rfl dX1_addTrack_29 ?_
  refine v_dup C rfl dX1_addTrack_30 ?_
  refine v_getI C (nI m0) fl_RX1_33 hk hm dX1_addTrack_31 ?_
  refine v_iconst C 1 (by decide) dX1_addTrack_34 ?_
  refine v_iadd C dX1_addTrack_35 ?_
  refine v_putI C fl_RX1_33 hk rfl rfl dX1_addTrack_36 ?_
  exact v_vret C hRT (Nat.le_of_ble_eq_true rfl) (Nat.le_of_ble_eq_true rfl) dX1_addTrack_39 ⟨rfl, rfl⟩
set_option maxRecDepth 100000 in
set_option maxHeartbeats 4000000 in
theorem c_X1_addReport (l : Launch) (S : HS) (h0 m0 : Nat) (hk : hK S h0 = 2) (hm : hI S 5 h0 = nI m0) (hm5 : m0 < 4) : cM l yX1_addReport cX1_addReport 1 (Option.none : Option Jvm.ClassFile.FieldType) 2 [.ref h0] S (pV fun u => sI S 5 h0 (nI m0 + 1) = u) 0 0 := by
  refine cM_intro (by decide +kernel) cd_X1_addReport (Nat.le_of_ble_eq_true rfl) ?_
  intro pP eE sS mM aA bB tT cC G A C hRT hin
  refine V.lvs (lv2 := [(0, .ref h0)]) rfl ?_
  refine v_aload_n C 0 rfl rfl dX1_addReport_0 ?_
  refine v_getI C (nI m0) fl_RX1_29 hk hm dX1_addReport_1 ?_
  refine v_iconst C 4 (by decide) dX1_addReport_4 ?_
  refine v_icmp_ge C 18 (by decide) dX1_addReport_5 (fun q => (nI_ge (a := m0) (b := 4) hm5 (by decide) q).elim) (fun c5 => ?_)
  refine v_aload_n C 0 rfl rfl dX1_addReport_8 ?_
  refine v_dup C rfl dX1_addReport_9 ?_
  refine v_getI C (nI m0) fl_RX1_29 hk hm dX1_addReport_10 ?_
  refine v_iconst C 1 (by decide) dX1_addReport_13 ?_
  refine v_iadd C dX1_addReport_14 ?_
  refine v_putI C fl_RX1_29 hk rfl rfl dX1_addReport_15 ?_
  exact v_vret C hRT (Nat.le_of_ble_eq_true rfl) (Nat.le_of_ble_eq_true rfl) dX1_addReport_18 ⟨rfl, rfl⟩
