/-- what the model reckons of any time and place -/
def rwD (q : AS) (t : Nat) (tm : Int32) (ax : Nat) : Int64 := (iO (zz q 3 t (1 + ax))).toInt64 + (iO (zz q 3 t (3 + ax))).toInt64 * (tm - iO (zz q 3 t 0)).toInt64
def rwF (q : AS) (tm x y : Int32) (t : Nat) : Int64 := (16 * x.toInt64 - rwD q t tm 0) * (16 * x.toInt64 - rwD q t tm 0) + (16 * y.toInt64 - rwD q t tm 1) * (16 * y.toInt64 - rwD q t tm 1)
theorem rwF_O {q : AS} (hB : BI q) {i : Nat} (hi : i < cn q 1) {t x y : Int32} (ht : isAk t) (hx : isPl x) (hy : isPl y) : rwF q t x y i = lO (farA q i t.toInt x.toInt y.toInt) := by
  have hb := ak_bd ht
  have e : ∀ ax, ax < 2 → rwD q i t ax = lO (ahd q i t.toInt ax) := fun ax hax => by
    have := ahd_L hB hi (tm := t.toInt) (by unfold bd at *; omega) hax
    rw [iO_of] at this
    exact this
  have c : ∀ (z : Int32) (v : Int), isPl z → (16 : Int64) * z.toInt64 - lO v = lO (16 * z.toInt - v) := fun z v hz => by
    have hzb := pl_bd hz
    have ez : z.toInt64 = lO z.toInt := by
      have := iO_l (z := z.toInt) (by unfold bd at *; omega) (by unfold bd at *; omega)
      rw [iO_of] at this
      exact this
    rw [ez, show (16 : Int64) = lO 16 from rfl, lO_mul, lO_sub]
  unfold rwF
  rw [e 0 (by decide), e 1 (by decide), c x _ hx, c y _ hy, lO_mul, lO_mul, lO_add]
  rfl
/-- the search from the highest number down -/
def nmR (p : Nat → Bool) (f : Nat → Int64) (N : Nat) : Nat → Option Nat
  | 0 => none
  | i + 1 => if p (N - (i + 1)) = true ∧ (∀ b, nmR p f N i = some b → f (N - (i + 1)) ≤ f b) then some (N - (i + 1)) else nmR p f N i
theorem nmR_lt {p : Nat → Bool} {f : Nat → Int64} {N : Nat} : ∀ i b, i ≤ N → nmR p f N i = some b → b < N
  | i + 1, b, hi, h => by
    by_cases c : p (N - (i + 1)) = true ∧ (∀ b, nmR p f N i = some b → f (N - (i + 1)) ≤ f b)
    · have e : nmR p f N (i + 1) = some (N - (i + 1)) := if_pos c
      rw [e] at h
      cases h
      omega
    · have e : nmR p f N (i + 1) = nmR p f N i := if_neg c
      rw [e] at h
      exact nmR_lt i b (by omega) h
theorem nmR_y {p : Nat → Bool} {f : Nat → Int64} {N i r : Nat} (hr : N - (i + 1) = r) (c : p r = true ∧ (∀ b, nmR p f N i = some b → f r ≤ f b)) : nmR p f N (i + 1) = some r := by
  subst hr; exact if_pos c
theorem nmR_n {p : Nat → Bool} {f : Nat → Int64} {N i r : Nat} (hr : N - (i + 1) = r) (c : ¬ (p r = true ∧ (∀ b, nmR p f N i = some b → f r ≤ f b))) : nmR p f N (i + 1) = nmR p f N i := by
  subst hr; exact if_neg c
/-- the best of a stretch, the lowest of several -/
def Bst (p : Nat → Bool) (g : Nat → Int) (lo hi : Nat) (o : Option Nat) : Prop := match o with
  | none => ∀ t, lo ≤ t → t < hi → p t = false
  | some b => lo ≤ b ∧ b < hi ∧ p b = true ∧ (∀ t, lo ≤ t → t < hi → p t = true → g b ≤ g t) ∧ (∀ t, lo ≤ t → t < b → p t = true → g b < g t)
theorem Bst.un {p : Nat → Bool} {g : Nat → Int} {lo hi : Nat} {o o' : Option Nat} (h : Bst p g lo hi o) (h' : Bst p g lo hi o') : o = o' := by
  cases o with
  | none =>
    cases o' with
    | none => rfl
    | some b =>
      have e := h b h'.1 h'.2.1
      rw [h'.2.2.1] at e
      cases e
  | some a =>
    cases o' with
    | none =>
      have e := h' a h.1 h.2.1
      rw [h.2.2.1] at e
      cases e
    | some b =>
      obtain ⟨a1, a2, a3, a4, a5⟩ := h
      obtain ⟨b1, b2, b3, b4, b5⟩ := h'
      rcases Nat.lt_trichotomy a b with z | z | z
      · have x1 := b5 a a1 z a3
        have x2 := a4 b b1 b2 b3
        omega
      · rw [z]
      · have x1 := a5 b b1 z b3
        have x2 := b4 a a1 a2 a3
        omega
theorem Bst_nst (q : AS) (t x y : Int) : ∀ n, Bst (liveP q) (fun i => farA q i t x y) 0 n (nst q t x y n)
  | 0 => fun t' _ h => absurd h (Nat.not_lt_zero t')
  | n + 1 => by
    have ih := Bst_nst q t x y n
    by_cases c : liveP q n = true ∧ (∀ b, nst q t x y n = some b → farA q n t x y < farA q b t x y)
    · rw [nst_y c]
      cases ho : nst q t x y n with
      | none =>
        rw [ho] at ih
        have fx : ∀ t', t' < n → liveP q t' = false := fun t' h => ih t' (Nat.zero_le _) h
        refine ⟨Nat.zero_le _, Nat.lt_succ_self _, c.1, fun t' _ h1 h2 => ?_, fun t' _ h1 h2 => ?_⟩
        · by_cases e : t' = n
          · rw [e]; exact Int.le_refl _
          · rw [fx t' (by omega)] at h2; cases h2
        · rw [fx t' h1] at h2; cases h2
      | some b =>
        rw [ho] at ih
        obtain ⟨-, b2, b3, b4, b5⟩ := ih
        have hlt := c.2 b ho
        refine ⟨Nat.zero_le _, Nat.lt_succ_self _, c.1, fun t' _ h1 h2 => ?_, fun t' _ h1 h2 => ?_⟩
        · by_cases e : t' = n
          · rw [e]; exact Int.le_refl _
          · have := b4 t' (Nat.zero_le _) (by omega) h2
            dsimp only at this ⊢
            omega
        · have := b4 t' (Nat.zero_le _) h1 h2
          dsimp only at this ⊢
          omega
    · rw [nst_k c]
      cases ho : nst q t x y n with
      | none =>
        rw [ho] at ih
        intro t' _ h1
        by_cases e : t' = n
        · cases hl : liveP q n with
          | false => rw [e]; exact hl
          | true => exact absurd ⟨hl, fun b hb => by rw [ho] at hb; cases hb⟩ c
        · exact ih t' (Nat.zero_le _) (by omega)
      | some b =>
        rw [ho] at ih
        obtain ⟨-, b2, b3, b4, b5⟩ := ih
        refine ⟨Nat.zero_le _, by omega, b3, fun t' _ h1 h2 => ?_, fun t' _ h1 h2 => b5 t' (Nat.zero_le _) h1 h2⟩
        by_cases e : t' = n
        · subst e
          rcases Int.lt_or_le (farA q t' t x y) (farA q b t x y) with z | z
          · exact absurd ⟨h2, fun b' hb' => by rw [ho] at hb'; cases hb'; exact z⟩ c
          · exact z
        · exact b4 t' (Nat.zero_le _) (by omega) h2
theorem Bst_nmR {p : Nat → Bool} {f : Nat → Int64} {g : Nat → Int} {N : Nat} (hf : ∀ a b, a < N → b < N → (f a ≤ f b ↔ g a ≤ g b)) : ∀ i, i ≤ N → Bst p g (N - i) N (nmR p f N i)
  | 0, _ => fun t h1 h2 => by omega
  | i + 1, hi => by
    have ih := Bst_nmR (p := p) hf i (by omega)
    by_cases c : p (N - (i + 1)) = true ∧ (∀ b, nmR p f N i = some b → f (N - (i + 1)) ≤ f b)
    · rw [nmR_y rfl c]
      cases ho : nmR p f N i with
      | none =>
        rw [ho] at ih
        refine ⟨Nat.le_refl _, by omega, c.1, fun t h0 h1 h2 => ?_, fun t h0 h1 h2 => by omega⟩
        by_cases e : t = N - (i + 1)
        · rw [e]; exact Int.le_refl _
        · have := ih t (by omega) h1
          rw [h2] at this; cases this
      | some b =>
        rw [ho] at ih
        obtain ⟨b1, b2, b3, b4, b5⟩ := ih
        have hle := (hf _ _ (by omega) b2).mp (c.2 b ho)
        refine ⟨Nat.le_refl _, by omega, c.1, fun t h0 h1 h2 => ?_, fun t h0 h1 h2 => by omega⟩
        by_cases e : t = N - (i + 1)
        · rw [e]; exact Int.le_refl _
        · have := b4 t (by omega) h1 h2
          omega
    · rw [nmR_n rfl c]
      cases ho : nmR p f N i with
      | none =>
        rw [ho] at ih
        intro t h0 h1
        by_cases e : t = N - (i + 1)
        · cases hl : p (N - (i + 1)) with
          | false => rw [e]; exact hl
          | true => exact absurd ⟨hl, fun b hb => by rw [ho] at hb; cases hb⟩ c
        · exact ih t (by omega) h1
      | some b =>
        rw [ho] at ih
        obtain ⟨b1, b2, b3, b4, b5⟩ := ih
        have hno : p (N - (i + 1)) = true → g b < g (N - (i + 1)) := fun hl => by
          rcases Int.lt_or_le (g b) (g (N - (i + 1))) with z | z
          · exact z
          · exact absurd ⟨hl, fun b' hb' => by rw [ho] at hb'; cases hb'; exact (hf _ _ (by omega) b2).mpr z⟩ c
        refine ⟨by omega, b2, b3, fun t h0 h1 h2 => ?_, fun t h0 h1 h2 => ?_⟩
        · by_cases e : t = N - (i + 1)
          · subst e
            have := hno h2
            omega
          · exact b4 t (by omega) h1 h2
        · by_cases e : t = N - (i + 1)
          · subst e
            exact hno h2
          · exact b5 t (by omega) h1 h2
theorem nmR_nst {q : AS} (hB : BI q) {t x y : Int32} (ht : isAk t) (hx : isPl x) (hy : isPl y) : nmR (liveP q) (rwF q t x y) (cn q 1) (cn q 1) = nst q t.toInt x.toInt y.toInt (cn q 1) := by
  have h1 := Bst_nmR (p := liveP q) (f := rwF q t x y) (g := fun i => farA q i t.toInt x.toInt y.toInt) (N := cn q 1) (fun a b ha hb => by
    have fa := far_bd hB ha ht hx hy
    have fb := far_bd hB hb ht hx hy
    rw [rwF_O hB ha ht hx hy, rwF_O hB hb ht hx hy]
    exact lO_le (by unfold bd at *; omega) (by unfold bd at *; omega) (by unfold bd at *; omega) (by unfold bd at *; omega)) (cn q 1) (Nat.le_refl _)
  rw [Nat.sub_self] at h1
  exact h1.un (Bst_nst q t.toInt x.toInt y.toInt (cn q 1))
theorem i_m1 (x : Int32) : x + Int32.ofInt (-1) = x - 1 := by
  rw [Int32.sub_eq_add_neg, show Int32.ofInt (-1) = -1 from by decide]
theorem nI_m1 (r : Nat) : nI (r + 1) - 1 = nI r := by
  rw [nI_iO, nI_iO, show (1 : Int32) = iO 1 from rfl, iO_sub]
  congr 1
  omega
theorem r_suc {r : Nat} (h : ¬ nI r - 1 < 0) (hr : r < 1000) : ∃ k, r = k + 1 := by
  cases r with
  | zero => exact absurd (by decide) h
  | succ k => exact ⟨k, rfl⟩
theorem r_zero {r : Nat} (h : nI r - 1 < 0) (hr : r < 1000) : r = 0 := by
  cases r with
  | zero => rfl
  | succ k =>
    rw [nI_m1] at h
    exact absurd h (nI_pos (by omega))
set_option maxRecDepth 100000 in
set_option maxHeartbeats 4000000 in
theorem c_X5_aheadR (l : Launch) (S : HS) (am : AM) (q : AS) (hB : BI q) (hA : NA S am (cn q 1)) (hV : NV S am q) (t : Nat) (ht : t < cn q 1) (ax : Nat) (hax : ax < 2) (tm : Int32)  : cM l yX5_ahead cX5_ahead 4 (Option.some Jvm.ClassFile.FieldType.long) 4 [.ref (am 0), .int (nI t), .int tm, .int (nI ax)] S (pL fun r u => rwD q t tm ax = r ∧ S = u) 0 0 := by
  refine cM_intro (by decide +kernel) cd_X5_ahead (Nat.le_of_ble_eq_true rfl) ?_
  intro pP eE sS mM aA bB tT cC G A C hRT hin
  refine V.lvs (lv2 := [(0, .ref (am 0)), (1, .int (nI t)), (2, .int tm), (3, .int (nI ax))]) rfl ?_
  refine v_aload_n C 0 rfl rfl dX5_ahead_0 ?_
  refine v_iload_n C 1 rfl rfl dX5_ahead_1 ?_
  refine v_iconst C 1 (by decide) dX5_ahead_2 ?_
  refine v_iload_n C 3 rfl rfl dX5_ahead_3 ?_
  refine v_iadd C dX5_ahead_4 ?_
  rw [show (1 : Int32) + nI ax = nI (1 + ax) from nI_s 1 ax]
  refine v_callVi C (st := []) [.int (nI t), .int (nI (1 + ax))] (c_X5_of l S am (cn q 1) t (1 + ax) (by have := (hA).hn; omega) (by omega) hA) ml_RX5_74 mi_yX5_of hA.k0 (by decide) (by decide +kernel) rfl (Nat.le_of_ble_eq_true rfl) (Nat.le_of_ble_eq_true rfl) (Nat.le_of_ble_eq_true rfl) (Nat.le_of_ble_eq_true rfl) (Nat.le_of_ble_eq_true rfl) dX5_ahead_5 (fun r u h => ?_) _ rfl
  obtain ⟨rfl, rfl⟩ := h
  rw [(hV).m t ht (1 + ax) (by omega)]
  refine v_i2l C dX5_ahead_8 ?_
  refine v_aload_n C 0 rfl rfl dX5_ahead_9 ?_
  refine v_iload_n C 1 rfl rfl dX5_ahead_10 ?_
  refine v_iconst C 3 (by decide) dX5_ahead_11 ?_
  refine v_iload_n C 3 rfl rfl dX5_ahead_12 ?_
  refine v_iadd C dX5_ahead_13 ?_
  rw [show (3 : Int32) + nI ax = nI (3 + ax) from nI_s 3 ax]
  refine v_callVi C (st := [.long ((iO (zz q 3 t (1 + ax))).toInt64)]) [.int (nI t), .int (nI (3 + ax))] (c_X5_of l S am (cn q 1) t (3 + ax) (by have := (hA).hn; omega) (by omega) hA) ml_RX5_74 mi_yX5_of hA.k0 (by decide) (by decide +kernel) rfl (Nat.le_of_ble_eq_true rfl) (Nat.le_of_ble_eq_true rfl) (Nat.le_of_ble_eq_true rfl) (Nat.le_of_ble_eq_true rfl) (Nat.le_of_ble_eq_true rfl) dX5_ahead_14 (fun r u h => ?_) _ rfl
  obtain ⟨rfl, rfl⟩ := h
  rw [(hV).m t ht (3 + ax) (by omega)]
  refine v_i2l C dX5_ahead_17 ?_
  refine v_iload_n C 2 rfl rfl dX5_ahead_18 ?_
  refine v_aload_n C 0 rfl rfl dX5_ahead_19 ?_
  refine v_iload_n C 1 rfl rfl dX5_ahead_20 ?_
  refine v_iconst C 0 (by decide) dX5_ahead_21 ?_
  refine v_callVi C (st := [.int tm, .long ((iO (zz q 3 t (3 + ax))).toInt64), .long ((iO (zz q 3 t (1 + ax))).toInt64)]) [.int (nI t), .int 0] (c_X5_of l S am (cn q 1) t 0 (by have := (hA).hn; omega) (by omega) hA) ml_RX5_74 mi_yX5_of hA.k0 (by decide) (by decide +kernel) rfl (Nat.le_of_ble_eq_true rfl) (Nat.le_of_ble_eq_true rfl) (Nat.le_of_ble_eq_true rfl) (Nat.le_of_ble_eq_true rfl) (Nat.le_of_ble_eq_true rfl) dX5_ahead_22 (fun r u h => ?_) _ rfl
  obtain ⟨rfl, rfl⟩ := h
  rw [(hV).m t ht 0 (by omega)]
  refine v_isub C dX5_ahead_25 ?_
  refine v_i2l C dX5_ahead_26 ?_
  refine v_lmul C dX5_ahead_27 ?_
  refine v_ladd C dX5_ahead_28 ?_
  exact v_lret C hRT (Nat.le_of_ble_eq_true rfl) (Nat.le_of_ble_eq_true rfl) dX5_ahead_29 ⟨_, rfl, rfl, rfl⟩
set_option maxRecDepth 100000 in
set_option maxHeartbeats 4000000 in
theorem c_X5_farness (l : Launch) (S : HS) (am : AM) (q : AS) (hB : BI q) (hA : NA S am (cn q 1)) (hV : NV S am q) (t : Nat) (ht : t < cn q 1) (tm x y : Int32)  : cM l yX5_farness cX5_farness 9 (Option.some Jvm.ClassFile.FieldType.long) 6 [.ref (am 0), .int (nI t), .int tm, .int x, .int y] S (pL fun r u => rwF q tm x y t = r ∧ S = u) 0 0 := by
  refine cM_intro (by decide +kernel) cd_X5_farness (Nat.le_of_ble_eq_true rfl) ?_
  intro pP eE sS mM aA bB tT cC G A C hRT hin
  refine V.lvs (lv2 := [(0, .ref (am 0)), (1, .int (nI t)), (2, .int tm), (3, .int x), (4, .int y)]) rfl ?_
  refine v_ldc2 C kl_RX5_97 dX5_farness_0 ?_
  refine v_iload_n C 3 rfl rfl dX5_farness_3 ?_
  refine v_i2l C dX5_farness_4 ?_
  refine v_lmul C dX5_farness_5 ?_
  refine v_aload_n C 0 rfl rfl dX5_farness_6 ?_
  refine v_iload_n C 1 rfl rfl dX5_farness_7 ?_
  refine v_iload_n C 2 rfl rfl dX5_farness_8 ?_
  refine v_iconst C 0 (by decide) dX5_farness_9 ?_
  refine v_callVl C (st := [.long (16 * x.toInt64)]) [.int (nI t), .int tm, .int 0] (c_X5_aheadR l S am q hB hA hV t ht 0 (by decide) tm) ml_RX5_114 mi_yX5_ahead hA.k0 (by decide) (by decide +kernel) rfl (Nat.le_of_ble_eq_true rfl) (Nat.le_of_ble_eq_true rfl) (Nat.le_of_ble_eq_true rfl) (Nat.le_of_ble_eq_true rfl) (Nat.le_of_ble_eq_true rfl) dX5_farness_10 (fun r u h => ?_) _ rfl
  obtain ⟨rfl, rfl⟩ := h
  refine v_lsub C dX5_farness_13 ?_
  refine v_lstore C [(5, .long ((16 * x.toInt64) - (rwD q t tm 0))), (0, .ref (am 0)), (1, .int (nI t)), (2, .int tm), (3, .int x), (4, .int y)] (by decide) rfl dX5_farness_14 ?_
  refine v_ldc2 C kl_RX5_97 dX5_farness_16 ?_
  refine v_iload C 5 rfl dX5_farness_19 ?_
  refine v_i2l C dX5_farness_21 ?_
  refine v_lmul C dX5_farness_22 ?_
  refine v_aload_n C 1 rfl rfl dX5_farness_23 ?_
  refine v_iload_n C 2 rfl rfl dX5_farness_24 ?_
  refine v_iload_n C 3 rfl rfl dX5_farness_25 ?_
  refine v_iconst C 1 (by decide) dX5_farness_26 ?_
  refine v_callVl C (st := [.long (16 * y.toInt64)]) [.int (nI t), .int tm, .int 1] (c_X5_aheadR l S am q hB hA hV t ht 1 (by decide) tm) ml_RX5_114 mi_yX5_ahead hA.k0 (by decide) (by decide +kernel) rfl (Nat.le_of_ble_eq_true rfl) (Nat.le_of_ble_eq_true rfl) (Nat.le_of_ble_eq_true rfl) (Nat.le_of_ble_eq_true rfl) (Nat.le_of_ble_eq_true rfl) dX5_farness_27 (fun r u h => ?_) _ rfl
  obtain ⟨rfl, rfl⟩ := h
  refine v_lsub C dX5_farness_30 ?_
  refine v_lstore C [(7, .long ((16 * y.toInt64) - (rwD q t tm 1))), (5, .long ((16 * x.toInt64) - (rwD q t tm 0))), (0, .ref (am 0)), (1, .int (nI t)), (2, .int tm), (3, .int x), (4, .int y)] (by decide) rfl dX5_farness_31 ?_
  refine v_lload C 1 rfl dX5_farness_33 ?_
  refine v_lload C 1 rfl dX5_farness_35 ?_
  refine v_lmul C dX5_farness_37 ?_
  refine v_lload C 0 rfl dX5_farness_38 ?_
  refine v_lload C 0 rfl dX5_farness_40 ?_
  refine v_lmul C dX5_farness_42 ?_
  refine v_ladd C dX5_farness_43 ?_
  exact v_lret C hRT (Nat.le_of_ble_eq_true rfl) (Nat.le_of_ble_eq_true rfl) dX5_farness_44 ⟨_, rfl, rfl, rfl⟩
set_option maxRecDepth 100000 in
set_option maxHeartbeats 4000000 in
theorem lp_X5_nearest {l : Launch} {pP : Program} {eE : Env} {sS : State} {mM : MethodId} {aA : Array Value} {bB : List Frame} {tT : Method} {cC : Code} {G : GT} {A : Nat → Prop} {Q : State → Prop}  (S : HS) (am : AM) (q : AS) (hB : BI q) (hA : NA S am (cn q 1)) (hV : NV S am q) (t x y : Int32)  (C : Cx pP l eE (rmD 8 0 0) sS mM aA bB tT cC cX5_nearest 7 RX5 G A) (kk : V pP l eE (rmD 8 0 0) sS mM aA bB tT cC 7 G A S 0 0 Q 80 [(0, .ref (am 0)), (1, .int t), (2, .int x), (3, .int y), (4, .int (bsO (nmR (liveP q) (rwF q t x y) (cn q 1) (cn q 1))))] []) : ∀ (N : Nat) (r : Nat), (hN9 : r + 1 ≤ N) → (hi : r ≤ cn q 1) → V pP l eE (rmD 8 0 0) sS mM aA bB tT cC 7 G A S 0 0 Q 11 [(0, .ref (am 0)), (1, .int t), (2, .int x), (3, .int y), (4, .int (bsO (nmR (liveP q) (rwF q t x y) (cn q 1) (cn q 1 - r)))), (5, .int (nI r - 1))] [] := by
  intro N
  induction N with
  | zero =>
    intro r hN9 hi
    exact absurd hN9 (by omega)
  | succ N ih =>
    intro r hN9 hi
    have h60 := hA.hn
    refine v_iload C 5 rfl dX5_nearest_11 ?_
    refine v_if_lt C 80 (by decide) dX5_nearest_13 (fun c13 => ?_) (fun c13 => ?_)
    · obtain rfl := r_zero c13 (by omega)
      exact V.sub [0, 1, 2, 3, 4] rfl kk
    · obtain ⟨r9, rfl⟩ := r_suc c13 (by omega)
      have hr9 : r9 < cn q 1 := by omega
      have ei : cn q 1 - r9 = (cn q 1 - (r9 + 1)) + 1 := by omega
      have eN : cn q 1 - ((cn q 1 - (r9 + 1)) + 1) = r9 := by omega
      refine V.lvs (lv2 := [(0, .ref (am 0)), (1, .int t), (2, .int x), (3, .int y), (4, .int (bsO (nmR (liveP q) (rwF q t x y) (cn q 1) (cn q 1 - (r9 + 1))))), (5, .int (nI r9))]) (by rw [nI_m1]) ?_
      refine v_aload_n C 0 rfl rfl dX5_nearest_16 ?_
      refine v_iload C 5 rfl dX5_nearest_17 ?_
      refine v_callVi C (st := []) [.int (nI r9)] (c_X5_isLive l S am q hB hA hV r9 hr9) ml_RX5_123 mi_yX5_isLive hA.k0 (by decide) (by decide +kernel) rfl (Nat.le_of_ble_eq_true rfl) (Nat.le_of_ble_eq_true rfl) (Nat.le_of_ble_eq_true rfl) (Nat.le_of_ble_eq_true rfl) (Nat.le_of_ble_eq_true rfl) dX5_nearest_19 (fun r u h => ?_) _ rfl
      obtain ⟨rfl, rfl⟩ := h
      refine v_if_eq C 57 (by decide) dX5_nearest_22 (fun c22 => ?_) (fun c22 => ?_)
      · refine v_iconst C 0 (by decide) dX5_nearest_57 ?_
        refine v_istore C [(6, .int 0), (0, .ref (am 0)), (1, .int t), (2, .int x), (3, .int y), (4, .int (bsO (nmR (liveP q) (rwF q t x y) (cn q 1) (cn q 1 - (r9 + 1))))), (5, .int (nI r9))] (by decide) rfl dX5_nearest_58 ?_
        refine v_iload C 0 rfl dX5_nearest_60 ?_
        refine v_if_eq C 70 (by decide) dX5_nearest_62 (fun _ => ?_) (fun q => absurd (by decide) q)
        refine v_iload C 5 rfl dX5_nearest_70 ?_
        refine v_istore C [(4, .int (bsO (nmR (liveP q) (rwF q t x y) (cn q 1) (cn q 1 - (r9 + 1))))), (6, .int 0), (0, .ref (am 0)), (1, .int t), (2, .int x), (3, .int y), (5, .int (nI r9))] (by decide) rfl dX5_nearest_72 ?_
        refine v_iinc C (nI r9 - 1) 6 [(5, .int (nI r9 - 1)), (4, .int (bsO (nmR (liveP q) (rwF q t x y) (cn q 1) (cn q 1 - (r9 + 1))))), (6, .int 0), (0, .ref (am 0)), (1, .int t), (2, .int x), (3, .int y)] rfl (i_m1 _) (by decide) rfl dX5_nearest_74 ?_
        refine v_goto C 11 (by decide) dX5_nearest_77 ?_
        have ef := nmR_n (p := liveP q) (f := rwF q t x y) (N := cn q 1) eN (fun z => bI_e0 c22 (of_decide_eq_true z.1))
        refine V.sub [3, 4, 5, 6, 1, 0] rfl ?_
        have key := ih r9 (by omega) (by omega)
        rw [ei, ef] at key
        exact key
      · refine v_iload C 4 rfl dX5_nearest_25 ?_
        refine v_iconst C (-1) (by decide) dX5_nearest_27 ?_
        refine v_icmp_eq C 53 (by decide) dX5_nearest_28 (fun c28 => ?_) (fun c28 => ?_)
        · refine v_iconst C 1 (by decide) dX5_nearest_53 ?_
          refine v_goto C 58 (by decide) dX5_nearest_54 ?_
          refine v_istore C [(6, .int 1), (0, .ref (am 0)), (1, .int t), (2, .int x), (3, .int y), (4, .int (bsO (nmR (liveP q) (rwF q t x y) (cn q 1) (cn q 1 - (r9 + 1))))), (5, .int (nI r9))] (by decide) rfl dX5_nearest_58 ?_
          refine v_iload C 0 rfl dX5_nearest_60 ?_
          refine v_if_eq C 70 (by decide) dX5_nearest_62 (fun q => absurd q (by decide)) (fun _ => ?_)
          refine v_iload C 6 rfl dX5_nearest_65 ?_
          refine v_goto C 72 (by decide) dX5_nearest_67 ?_
          refine v_istore C [(4, .int (nI r9)), (6, .int 1), (0, .ref (am 0)), (1, .int t), (2, .int x), (3, .int y), (5, .int (nI r9))] (by decide) rfl dX5_nearest_72 ?_
          refine v_iinc C (nI r9 - 1) 6 [(5, .int (nI r9 - 1)), (4, .int (nI r9)), (6, .int 1), (0, .ref (am 0)), (1, .int t), (2, .int x), (3, .int y)] rfl (i_m1 _) (by decide) rfl dX5_nearest_74 ?_
          refine v_goto C 11 (by decide) dX5_nearest_77 ?_
          have e9 := bs_n (fun b hb => by have := nmR_lt _ b (by omega) hb; omega) c28
          have ef := nmR_y (p := liveP q) (f := rwF q t x y) (N := cn q 1) eN ⟨decide_eq_true (bI_n0 c22), fun b hb => by rw [e9] at hb; cases hb⟩
          refine V.sub [3, 4, 5, 6, 1, 0] rfl ?_
          have key := ih r9 (by omega) (by omega)
          rw [ei, ef] at key
          exact key
        · obtain ⟨b9, e9⟩ := bs_s c28
          have hb9 : b9 < cn q 1 := nmR_lt _ b9 (by omega) e9
          refine V.lvs (lv2 := [(0, .ref (am 0)), (1, .int t), (2, .int x), (3, .int y), (4, .int (nI b9)), (5, .int (nI r9))]) (by rw [e9]; rfl) ?_
          refine v_aload_n C 0 rfl rfl dX5_nearest_31 ?_
          refine v_iload C 5 rfl dX5_nearest_32 ?_
          refine v_iload_n C 1 rfl rfl dX5_nearest_34 ?_
          refine v_iload_n C 2 rfl rfl dX5_nearest_35 ?_
          refine v_iload_n C 3 rfl rfl dX5_nearest_36 ?_
          refine v_callVl C (st := []) [.int (nI r9), .int t, .int x, .int y] (c_X5_farness l S am q hB hA hV r9 hr9 t x y) ml_RX5_223 mi_yX5_farness hA.k0 (by decide) (by decide +kernel) rfl (Nat.le_of_ble_eq_true rfl) (Nat.le_of_ble_eq_true rfl) (Nat.le_of_ble_eq_true rfl) (Nat.le_of_ble_eq_true rfl) (Nat.le_of_ble_eq_true rfl) dX5_nearest_37 (fun r u h => ?_) _ rfl
          obtain ⟨rfl, rfl⟩ := h
          refine v_aload_n C 0 rfl rfl dX5_nearest_40 ?_
          refine v_iload C 4 rfl dX5_nearest_41 ?_
          refine v_iload_n C 1 rfl rfl dX5_nearest_43 ?_
          refine v_iload_n C 2 rfl rfl dX5_nearest_44 ?_
          refine v_iload_n C 3 rfl rfl dX5_nearest_45 ?_
          refine v_callVl C (st := [.long (rwF q t x y r9)]) [.int (nI b9), .int t, .int x, .int y] (c_X5_farness l S am q hB hA hV b9 hb9 t x y) ml_RX5_223 mi_yX5_farness hA.k0 (by decide) (by decide +kernel) rfl (Nat.le_of_ble_eq_true rfl) (Nat.le_of_ble_eq_true rfl) (Nat.le_of_ble_eq_true rfl) (Nat.le_of_ble_eq_true rfl) (Nat.le_of_ble_eq_true rfl) dX5_nearest_46 (fun r u h => ?_) _ rfl
          obtain ⟨rfl, rfl⟩ := h
          refine v_lcmp C dX5_nearest_49 ?_
          refine v_if_gt C 57 (by decide) dX5_nearest_50 (fun c50 => ?_) (fun c50 => ?_)
          · refine v_iconst C 0 (by decide) dX5_nearest_57 ?_
            refine v_istore C [(6, .int 0), (0, .ref (am 0)), (1, .int t), (2, .int x), (3, .int y), (4, .int (nI b9)), (5, .int (nI r9))] (by decide) rfl dX5_nearest_58 ?_
            refine v_iload C 0 rfl dX5_nearest_60 ?_
            refine v_if_eq C 70 (by decide) dX5_nearest_62 (fun _ => ?_) (fun q => absurd (by decide) q)
            refine v_iload C 5 rfl dX5_nearest_70 ?_
            refine v_istore C [(4, .int (nI b9)), (6, .int 0), (0, .ref (am 0)), (1, .int t), (2, .int x), (3, .int y), (5, .int (nI r9))] (by decide) rfl dX5_nearest_72 ?_
            refine v_iinc C (nI r9 - 1) 6 [(5, .int (nI r9 - 1)), (4, .int (nI b9)), (6, .int 0), (0, .ref (am 0)), (1, .int t), (2, .int x), (3, .int y)] rfl (i_m1 _) (by decide) rfl dX5_nearest_74 ?_
            refine v_goto C 11 (by decide) dX5_nearest_77 ?_
            have ef := nmR_n (p := liveP q) (f := rwF q t x y) (N := cn q 1) eN (fun z => absurd (z.2 b9 e9) (Int64.not_le.mpr ((lg_cmp_gt _ _).mp c50)))
            refine V.sub [3, 4, 5, 6, 1, 0] rfl ?_
            have key := ih r9 (by omega) (by omega)
            rw [ei, ef, e9] at key
            exact key
          · refine v_iconst C 1 (by decide) dX5_nearest_53 ?_
            refine v_goto C 58 (by decide) dX5_nearest_54 ?_
            refine v_istore C [(6, .int 1), (0, .ref (am 0)), (1, .int t), (2, .int x), (3, .int y), (4, .int (nI b9)), (5, .int (nI r9))] (by decide) rfl dX5_nearest_58 ?_
            refine v_iload C 0 rfl dX5_nearest_60 ?_
            refine v_if_eq C 70 (by decide) dX5_nearest_62 (fun q => absurd q (by decide)) (fun _ => ?_)
            refine v_iload C 6 rfl dX5_nearest_65 ?_
            refine v_goto C 72 (by decide) dX5_nearest_67 ?_
            refine v_istore C [(4, .int (nI r9)), (6, .int 1), (0, .ref (am 0)), (1, .int t), (2, .int x), (3, .int y), (5, .int (nI r9))] (by decide) rfl dX5_nearest_72 ?_
            refine v_iinc C (nI r9 - 1) 6 [(5, .int (nI r9 - 1)), (4, .int (nI r9)), (6, .int 1), (0, .ref (am 0)), (1, .int t), (2, .int x), (3, .int y)] rfl (i_m1 _) (by decide) rfl dX5_nearest_74 ?_
            refine v_goto C 11 (by decide) dX5_nearest_77 ?_
            have ef := nmR_y (p := liveP q) (f := rwF q t x y) (N := cn q 1) eN ⟨decide_eq_true (bI_n0 c22), fun b hb => by rw [e9] at hb; cases hb; exact Int64.not_lt.mp (fun z => c50 ((lg_cmp_gt _ _).mpr z))⟩
            refine V.sub [3, 4, 5, 6, 1, 0] rfl ?_
            have key := ih r9 (by omega) (by omega)
            rw [ei, ef] at key
            exact key
set_option maxRecDepth 100000 in
set_option maxHeartbeats 4000000 in
theorem c_X5_nearest (l : Launch) (S : HS) (am : AM) (q : AS) (hB : BI q) (hA : NA S am (cn q 1)) (hV : NV S am q) (t x y : Int32) : cM l yX5_nearest cX5_nearest 7 (Option.some Jvm.ClassFile.FieldType.int) 8 [.ref (am 0), .int t, .int x, .int y] S (pI fun r u => ((isAk t ∧ isPl x ∧ isPl y) ∧ ∃ b, (nst q t.toInt x.toInt y.toInt (cn q 1)) = some b ∧ FrN S u am ∧ hI u 61 (am 0) = 0 ∧ nI b = r) ∨ (¬ (isAk t ∧ isPl x ∧ isPl y) ∧ FrN S u am ∧ hI u 61 (am 0) = 1) ∨ ((isAk t ∧ isPl x ∧ isPl y) ∧ (nst q t.toInt x.toInt y.toInt (cn q 1)) = none ∧ FrN S u am ∧ hI u 61 (am 0) = 2)) 0 0 := by
  refine cM_intro (by decide +kernel) cd_X5_nearest (Nat.le_of_ble_eq_true rfl) ?_
  intro pP eE sS mM aA bB tT cC G A C hRT hin
  refine V.lvs (lv2 := [(0, .ref (am 0)), (1, .int t), (2, .int x), (3, .int y)]) rfl ?_
  have h60 := hA.hn
  refine v_iconst C (-1) (by decide) dX5_nearest_0 ?_
  refine v_istore C [(4, .int (-1)), (0, .ref (am 0)), (1, .int t), (2, .int x), (3, .int y)] (by decide) rfl dX5_nearest_1 ?_
  refine v_aload_n C 1 rfl rfl dX5_nearest_3 ?_
  refine v_getI C (nI (cn q 1)) fl_RX5_71 hA.k0 hV.v44 dX5_nearest_4 ?_
  refine v_iconst C 1 (by decide) dX5_nearest_7 ?_
  refine v_isub C dX5_nearest_8 ?_
  refine v_istore C [(5, .int ((nI (cn q 1)) - 1)), (4, .int (-1)), (0, .ref (am 0)), (1, .int t), (2, .int x), (3, .int y)] (by decide) rfl dX5_nearest_9 ?_
  refine V.sub [2, 3, 4, 5, 1, 0] rfl (V.lvs (lv2 := [(0, .ref (am 0)), (1, .int t), (2, .int x), (3, .int y), (4, .int (bsO (nmR (liveP q) (rwF q t x y) (cn q 1) (cn q 1 - cn q 1)))), (5, .int (nI (cn q 1) - 1))]) (by rw [Nat.sub_self]; rfl) (lp_X5_nearest S am q hB hA hV t x y C ?_ (cn q 1 + 1) (cn q 1) (by omega) (Nat.le_refl _)))
  refine v_aload_n C 0 rfl rfl dX5_nearest_80 ?_
  refine v_iload_n C 1 rfl rfl dX5_nearest_81 ?_
  refine v_callSi C (st := [.ref (am 0)]) [.int t] (c_X5_isAhead l S t) ml_RX5_214 ms_yX5_isAhead rfl (Nat.le_of_ble_eq_true rfl) (Nat.le_of_ble_eq_true rfl) (Nat.le_of_ble_eq_true rfl) (Nat.le_of_ble_eq_true rfl) (Nat.le_of_ble_eq_true rfl) dX5_nearest_82 (fun r u h => ?_) _ rfl
  obtain ⟨rfl, rfl⟩ := h
  refine v_if_eq C 96 (by decide) dX5_nearest_85 (fun c85 => ?_) (fun c85 => ?_)
  · refine v_iconst C 1 (by decide) dX5_nearest_96 ?_
    refine v_goto C 111 (by decide) dX5_nearest_97 ?_
    refine v_putI C fl_RX5_62 hA.k0 rfl rfl dX5_nearest_111 ?_
    refine v_aload_n C 0 rfl rfl dX5_nearest_114 ?_
    refine v_getI C 1 fl_RX5_62 hA.k0 hI_sI1 dX5_nearest_115 ?_
    refine v_if_ne C 126 (by decide) dX5_nearest_118 (fun _ => ?_) (fun q => absurd q (by decide))
    refine v_iconst C (-1) (by decide) dX5_nearest_126 ?_
    exact v_iret C hRT (Nat.le_of_ble_eq_true rfl) (Nat.le_of_ble_eq_true rfl) dX5_nearest_127 ⟨_, rfl, Or.inr (Or.inl ⟨fun z => bI_e0 c85 z.1, FrN.I, hI_sI1⟩)⟩
  · refine v_iload_n C 2 rfl rfl dX5_nearest_88 ?_
    refine v_iload_n C 3 rfl rfl dX5_nearest_89 ?_
    refine v_callSi C (st := [.ref (am 0)]) [.int x, .int y] (c_X5_isPlace l S x y) ml_RX5_107 ms_yX5_isPlace rfl (Nat.le_of_ble_eq_true rfl) (Nat.le_of_ble_eq_true rfl) (Nat.le_of_ble_eq_true rfl) (Nat.le_of_ble_eq_true rfl) (Nat.le_of_ble_eq_true rfl) dX5_nearest_90 (fun r u h => ?_) _ rfl
    obtain ⟨rfl, rfl⟩ := h
    refine v_if_ne C 100 (by decide) dX5_nearest_93 (fun c93 => ?_) (fun c93 => ?_)
    · refine v_iload C 4 rfl dX5_nearest_100 ?_
      refine v_iconst C (-1) (by decide) dX5_nearest_102 ?_
      refine v_icmp_ne C 110 (by decide) dX5_nearest_103 (fun c103 => ?_) (fun c103 => ?_)
      · refine v_iconst C 0 (by decide) dX5_nearest_110 ?_
        refine v_putI C fl_RX5_62 hA.k0 rfl rfl dX5_nearest_111 ?_
        refine v_aload_n C 0 rfl rfl dX5_nearest_114 ?_
        refine v_getI C 0 fl_RX5_62 hA.k0 hI_sI1 dX5_nearest_115 ?_
        refine v_if_ne C 126 (by decide) dX5_nearest_118 (fun q => absurd (by decide) q) (fun _ => ?_)
        refine v_iload C 4 rfl dX5_nearest_121 ?_
        refine v_goto C 127 (by decide) dX5_nearest_123 ?_
        exact v_iret C hRT (Nat.le_of_ble_eq_true rfl) (Nat.le_of_ble_eq_true rfl) dX5_nearest_127 (by have hg : (isAk t ∧ isPl x ∧ isPl y) := ⟨(bI_n0 c85 : ¬ t < (-9999) ∧ ¬ 39999 < t), bI_pl c93⟩; have en := nmR_nst hB hg.1 hg.2.1 hg.2.2; obtain ⟨b9, e9⟩ := bs_s c103; exact ⟨_, rfl, Or.inl ⟨hg, b9, en.symm.trans e9, FrN.I, hI_sI1, by rw [e9]; rfl⟩⟩)
      · refine v_iconst C 2 (by decide) dX5_nearest_106 ?_
        refine v_goto C 111 (by decide) dX5_nearest_107 ?_
        refine v_putI C fl_RX5_62 hA.k0 rfl rfl dX5_nearest_111 ?_
        refine v_aload_n C 0 rfl rfl dX5_nearest_114 ?_
        refine v_getI C 2 fl_RX5_62 hA.k0 hI_sI1 dX5_nearest_115 ?_
        refine v_if_ne C 126 (by decide) dX5_nearest_118 (fun _ => ?_) (fun q => absurd q (by decide))
        refine v_iconst C (-1) (by decide) dX5_nearest_126 ?_
        exact v_iret C hRT (Nat.le_of_ble_eq_true rfl) (Nat.le_of_ble_eq_true rfl) dX5_nearest_127 (by have hg : (isAk t ∧ isPl x ∧ isPl y) := ⟨(bI_n0 c85 : ¬ t < (-9999) ∧ ¬ 39999 < t), bI_pl c93⟩; have en := nmR_nst hB hg.1 hg.2.1 hg.2.2; exact ⟨_, rfl, Or.inr (Or.inr ⟨hg, en.symm.trans (bs_n (fun b hb => by have := nmR_lt _ b (by omega) hb; omega) c103), FrN.I, hI_sI1⟩)⟩)
    · refine v_iconst C 1 (by decide) dX5_nearest_96 ?_
      refine v_goto C 111 (by decide) dX5_nearest_97 ?_
      refine v_putI C fl_RX5_62 hA.k0 rfl rfl dX5_nearest_111 ?_
      refine v_aload_n C 0 rfl rfl dX5_nearest_114 ?_
      refine v_getI C 1 fl_RX5_62 hA.k0 hI_sI1 dX5_nearest_115 ?_
      refine v_if_ne C 126 (by decide) dX5_nearest_118 (fun _ => ?_) (fun q => absurd q (by decide))
      refine v_iconst C (-1) (by decide) dX5_nearest_126 ?_
      exact v_iret C hRT (Nat.le_of_ble_eq_true rfl) (Nat.le_of_ble_eq_true rfl) dX5_nearest_127 ⟨_, rfl, Or.inr (Or.inl ⟨fun z => (bI_e0 c93 : ¬ ((¬ x < (-999) ∧ ¬ 999 < x) ∧ (¬ y < (-999) ∧ ¬ 999 < y))) z.2, FrN.I, hI_sI1⟩)⟩
