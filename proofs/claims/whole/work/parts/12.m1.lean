/-- Math.floorDiv of ints, as the library's code says it -/
def fdv (x y : Int32) : Int32 := if 0 ≤ x ^^^ y then x / y else if x / y * y = x then x / y else x / y - 1
def fdl (x y : Int64) : Int64 := if lg_cmp (x ^^^ y) 0 < 0 then (if lg_cmp (x / y * y) x = 0 then x / y else x / y - 1) else x / y
set_option maxRecDepth 100000 in
set_option maxHeartbeats 4000000 in
theorem c_J9_floorDiv_7cf53 (l : Launch) (S : HS) (x y : Int32) (hy : ¬ y = 0) : cM l yJ9_floorDiv_7cf53 cJ9_floorDiv_7cf53 3 (Option.some Jvm.ClassFile.FieldType.int) 2 [.int x, .int y] S (pI fun r u => fdv x y = r ∧ S = u) 0 0 := by
  refine cM_intro (by decide +kernel) cd_J9_floorDiv_7cf53 (Nat.le_of_ble_eq_true rfl) ?_
  intro pP eE sS mM aA bB tT cC G A C hRT hin
  refine V.lvs (lv2 := [(0, .int x), (1, .int y)]) rfl ?_
  refine v_iload_n C 0 rfl rfl dJ9_floorDiv_7cf53_0 ?_
  refine v_iload_n C 1 rfl rfl dJ9_floorDiv_7cf53_1 ?_
  refine v_idiv C hy dJ9_floorDiv_7cf53_2 ?_
  refine v_istore_n C [(2, .int (x / y)), (0, .int x), (1, .int y)] (by decide) rfl rfl dJ9_floorDiv_7cf53_3 ?_
  refine v_iload_n C 1 rfl rfl dJ9_floorDiv_7cf53_4 ?_
  refine v_iload_n C 2 rfl rfl dJ9_floorDiv_7cf53_5 ?_
  refine v_ixor C dJ9_floorDiv_7cf53_6 ?_
  refine v_if_ge C 21 (by decide) dJ9_floorDiv_7cf53_7 (fun c7 => ?_) (fun c7 => ?_)
  · refine v_iload_n C 0 rfl rfl dJ9_floorDiv_7cf53_21 ?_
    exact v_iret C hRT (Nat.le_of_ble_eq_true rfl) (Nat.le_of_ble_eq_true rfl) dJ9_floorDiv_7cf53_22 ⟨_, rfl, by simp [fdv, *], rfl⟩
  · refine v_iload_n C 0 rfl rfl dJ9_floorDiv_7cf53_10 ?_
    refine v_iload_n C 2 rfl rfl dJ9_floorDiv_7cf53_11 ?_
    refine v_imul C dJ9_floorDiv_7cf53_12 ?_
    refine v_iload_n C 1 rfl rfl dJ9_floorDiv_7cf53_13 ?_
    refine v_icmp_eq C 21 (by decide) dJ9_floorDiv_7cf53_14 (fun c14 => ?_) (fun c14 => ?_)
    · refine v_iload_n C 0 rfl rfl dJ9_floorDiv_7cf53_21 ?_
      exact v_iret C hRT (Nat.le_of_ble_eq_true rfl) (Nat.le_of_ble_eq_true rfl) dJ9_floorDiv_7cf53_22 ⟨_, rfl, by simp [fdv, *], rfl⟩
    · refine v_iload_n C 0 rfl rfl dJ9_floorDiv_7cf53_17 ?_
      refine v_iconst C 1 (by decide) dJ9_floorDiv_7cf53_18 ?_
      refine v_isub C dJ9_floorDiv_7cf53_19 ?_
      exact v_iret C hRT (Nat.le_of_ble_eq_true rfl) (Nat.le_of_ble_eq_true rfl) dJ9_floorDiv_7cf53_20 ⟨_, rfl, by simp [fdv, *], rfl⟩
set_option maxRecDepth 100000 in
set_option maxHeartbeats 4000000 in
theorem c_X0_init (l : Launch) (S : HS) (h0 : Nat) (hk : hK S h0 = 1) : cM l yX0_init cX0_init 1 (Option.none : Option Jvm.ClassFile.FieldType) 2 [.ref h0] S (pV fun u => S = u) 0 0 := by
  refine cM_intro (by decide +kernel) cd_X0_init (Nat.le_of_ble_eq_true rfl) ?_
  intro pP eE sS mM aA bB tT cC G A C hRT hin
  refine V.lvs (lv2 := [(0, .ref h0)]) rfl ?_
  refine v_aload_n C 0 rfl rfl dX0_init_0 ?_
  refine v_objInit C oi_RX0_1 (Nat.le_of_ble_eq_true rfl) (Nat.le_of_ble_eq_true rfl) (Nat.le_of_ble_eq_true rfl) dX0_init_1 ?_
  exact v_vret C hRT (Nat.le_of_ble_eq_true rfl) (Nat.le_of_ble_eq_true rfl) dX0_init_4 ⟨rfl, rfl⟩
set_option maxRecDepth 100000 in
set_option maxHeartbeats 4000000 in
theorem c_X0_fits (l : Launch) (S : HS) (h0 : Nat) (t tt : Int32) (hk : hK S h0 = 1) : cM l yX0_fits cX0_fits 5 (Option.some Jvm.ClassFile.FieldType.boolean) 2 [.ref h0, .int t, .int tt] S (pI fun r u => bI (hI S 0 h0 = 0 ∨ (¬ t - hI S 3 h0 ≤ 0 ∧ ¬ 2 * (tt - hI S 4 h0) < t - hI S 3 h0 ∧ ¬ 2 * (t - hI S 3 h0) < tt - hI S 4 h0)) = r ∧ S = u) 0 0 := by
  refine cM_intro (by decide +kernel) cd_X0_fits (Nat.le_of_ble_eq_true rfl) ?_
  intro pP eE sS mM aA bB tT cC G A C hRT hin
  refine V.lvs (lv2 := [(0, .ref h0), (1, .int t), (2, .int tt)]) rfl ?_
  refine v_aload_n C 0 rfl rfl dX0_fits_0 ?_
  refine v_getI C (hI S 0 h0) fl_RX0_7 hk rfl dX0_fits_1 ?_
  refine v_if_ne C 9 (by decide) dX0_fits_4 (fun c4 => ?_) (fun c4 => ?_)
  · refine v_iload_n C 1 rfl rfl dX0_fits_9 ?_
    refine v_aload_n C 0 rfl rfl dX0_fits_10 ?_
    refine v_getI C (hI S 3 h0) fl_RX0_13 hk rfl dX0_fits_11 ?_
    refine v_isub C dX0_fits_14 ?_
    refine v_istore_n C [(3, .int (t - (hI S 3 h0))), (0, .ref h0), (1, .int t), (2, .int tt)] (by decide) rfl rfl dX0_fits_15 ?_
    refine v_iload_n C 3 rfl rfl dX0_fits_16 ?_
    refine v_aload_n C 1 rfl rfl dX0_fits_17 ?_
    refine v_getI C (hI S 4 h0) fl_RX0_16 hk rfl dX0_fits_18 ?_
    refine v_isub C dX0_fits_21 ?_
    refine v_istore C [(4, .int (tt - (hI S 4 h0))), (3, .int (t - (hI S 3 h0))), (0, .ref h0), (1, .int t), (2, .int tt)] (by decide) rfl dX0_fits_22 ?_
    refine v_iload_n C 1 rfl rfl dX0_fits_24 ?_
    refine v_if_le C 48 (by decide) dX0_fits_25 (fun c25 => ?_) (fun c25 => ?_)
    · refine v_iconst C 0 (by decide) dX0_fits_48 ?_
      exact v_zret C rfl hRT (Nat.le_of_ble_eq_true rfl) (Nat.le_of_ble_eq_true rfl) dX0_fits_49 ⟨_, rfl, by simp_all [bI], rfl⟩
    · refine v_iconst C 2 (by decide) dX0_fits_28 ?_
      refine v_iload C 0 rfl dX0_fits_29 ?_
      refine v_imul C dX0_fits_31 ?_
      refine v_iload_n C 1 rfl rfl dX0_fits_32 ?_
      refine v_icmp_lt C 48 (by decide) dX0_fits_33 (fun c33 => ?_) (fun c33 => ?_)
      · refine v_iconst C 0 (by decide) dX0_fits_48 ?_
        exact v_zret C rfl hRT (Nat.le_of_ble_eq_true rfl) (Nat.le_of_ble_eq_true rfl) dX0_fits_49 ⟨_, rfl, by simp_all [bI], rfl⟩
      · refine v_iload C 0 rfl dX0_fits_36 ?_
        refine v_iconst C 2 (by decide) dX0_fits_38 ?_
        refine v_iload_n C 1 rfl rfl dX0_fits_39 ?_
        refine v_imul C dX0_fits_40 ?_
        refine v_icmp_gt C 48 (by decide) dX0_fits_41 (fun c41 => ?_) (fun c41 => ?_)
        · refine v_iconst C 0 (by decide) dX0_fits_48 ?_
          exact v_zret C rfl hRT (Nat.le_of_ble_eq_true rfl) (Nat.le_of_ble_eq_true rfl) dX0_fits_49 ⟨_, rfl, by simp_all [bI], rfl⟩
        · refine v_iconst C 1 (by decide) dX0_fits_44 ?_
          refine v_goto C 49 (by decide) dX0_fits_45 ?_
          exact v_zret C rfl hRT (Nat.le_of_ble_eq_true rfl) (Nat.le_of_ble_eq_true rfl) dX0_fits_49 ⟨_, rfl, by simp_all [bI], rfl⟩
  · refine v_iconst C 1 (by decide) dX0_fits_7 ?_
    exact v_zret C rfl hRT (Nat.le_of_ble_eq_true rfl) (Nat.le_of_ble_eq_true rfl) dX0_fits_8 ⟨_, rfl, by simp_all [bI], rfl⟩
set_option maxRecDepth 100000 in
set_option maxHeartbeats 4000000 in
theorem c_X0_add (l : Launch) (S : HS) (h0 : Nat) (t tt : Int32) (hk : hK S h0 = 1) : cM l yX0_add cX0_add 3 (Option.none : Option Jvm.ClassFile.FieldType) 2 [.ref h0, .int t, .int tt] S (pV fun u => sI (sI (sI (sI (sI S 1 h0 (hI S 3 h0)) 2 h0 (hI S 4 h0)) 3 h0 t) 4 h0 tt) 0 h0 (if hI S 0 h0 = 0 then 1 else 2) = u) 0 0 := by
  refine cM_intro (by decide +kernel) cd_X0_add (Nat.le_of_ble_eq_true rfl) ?_
  intro pP eE sS mM aA bB tT cC G A C hRT hin
  refine V.lvs (lv2 := [(0, .ref h0), (1, .int t), (2, .int tt)]) rfl ?_
  refine v_aload_n C 0 rfl rfl dX0_add_0 ?_
  refine v_aload_n C 0 rfl rfl dX0_add_1 ?_
  refine v_getI C (hI S 3 h0) fl_RX0_13 hk rfl dX0_add_2 ?_
  refine v_putI C fl_RX0_19 hk rfl rfl dX0_add_5 ?_
  refine v_aload_n C 0 rfl rfl dX0_add_8 ?_
  refine v_aload_n C 0 rfl rfl dX0_add_9 ?_
  refine v_getI C (hI S 4 h0) fl_RX0_16 hk ((hI_sI2 (fun q => absurd q.1 (by decide))).trans rfl) dX0_add_10 ?_
  refine v_putI C fl_RX0_22 hk rfl rfl dX0_add_13 ?_
  refine v_aload_n C 0 rfl rfl dX0_add_16 ?_
  refine v_iload_n C 1 rfl rfl dX0_add_17 ?_
  refine v_putI C fl_RX0_13 hk rfl rfl dX0_add_18 ?_
  refine v_aload_n C 0 rfl rfl dX0_add_21 ?_
  refine v_iload_n C 2 rfl rfl dX0_add_22 ?_
  refine v_putI C fl_RX0_16 hk rfl rfl dX0_add_23 ?_
  refine v_aload_n C 0 rfl rfl dX0_add_26 ?_
  refine v_aload_n C 0 rfl rfl dX0_add_27 ?_
  refine v_getI C (hI S 0 h0) fl_RX0_7 hk ((hI_sI2 (fun q => absurd q.1 (by decide))).trans ((hI_sI2 (fun q => absurd q.1 (by decide))).trans ((hI_sI2 (fun q => absurd q.1 (by decide))).trans ((hI_sI2 (fun q => absurd q.1 (by decide))).trans rfl)))) dX0_add_28 ?_
  refine v_if_ne C 38 (by decide) dX0_add_31 (fun c31 => ?_) (fun c31 => ?_)
  · refine v_iconst C 2 (by decide) dX0_add_38 ?_
    refine v_putI C fl_RX0_7 hk rfl rfl dX0_add_39 ?_
    exact v_vret C hRT (Nat.le_of_ble_eq_true rfl) (Nat.le_of_ble_eq_true rfl) dX0_add_42 ⟨rfl, by simp [*]⟩
  · refine v_iconst C 1 (by decide) dX0_add_34 ?_
    refine v_goto C 39 (by decide) dX0_add_35 ?_
    refine v_putI C fl_RX0_7 hk rfl rfl dX0_add_39 ?_
    exact v_vret C hRT (Nat.le_of_ble_eq_true rfl) (Nat.le_of_ble_eq_true rfl) dX0_add_42 ⟨rfl, by simp [*]⟩
set_option maxRecDepth 100000 in
set_option maxHeartbeats 4000000 in
theorem c_X0_putRight (l : Launch) (S : HS) (h0 : Nat) (t : Int32) (hk : hK S h0 = 1) : cM l yX0_putRight cX0_putRight 4 (Option.some Jvm.ClassFile.FieldType.int) 4 [.ref h0, .int t] S (pI fun r u => (if hI S 0 h0 = 0 then t else if ¬ hI S 0 h0 = 1 ∧ 0 < hI S 3 h0 - hI S 1 h0 then hI S 4 h0 + fdv ((t - hI S 3 h0) * (hI S 4 h0 - hI S 2 h0)) (hI S 3 h0 - hI S 1 h0) else hI S 4 h0 + (t - hI S 3 h0)) = r ∧ S = u) 0 0 := by
  refine cM_intro (by decide +kernel) cd_X0_putRight (Nat.le_of_ble_eq_true rfl) ?_
  intro pP eE sS mM aA bB tT cC G A C hRT hin
  refine V.lvs (lv2 := [(0, .ref h0), (1, .int t)]) rfl ?_
  refine v_aload_n C 0 rfl rfl dX0_putRight_0 ?_
  refine v_getI C (hI S 0 h0) fl_RX0_7 hk rfl dX0_putRight_1 ?_
  refine v_if_ne C 9 (by decide) dX0_putRight_4 (fun c4 => ?_) (fun c4 => ?_)
  · refine v_iload_n C 1 rfl rfl dX0_putRight_9 ?_
    refine v_aload_n C 0 rfl rfl dX0_putRight_10 ?_
    refine v_getI C (hI S 3 h0) fl_RX0_13 hk rfl dX0_putRight_11 ?_
    refine v_isub C dX0_putRight_14 ?_
    refine v_istore_n C [(2, .int (t - (hI S 3 h0))), (0, .ref h0), (1, .int t)] (by decide) rfl rfl dX0_putRight_15 ?_
    refine v_aload_n C 1 rfl rfl dX0_putRight_16 ?_
    refine v_getI C (hI S 3 h0) fl_RX0_13 hk rfl dX0_putRight_17 ?_
    refine v_aload_n C 1 rfl rfl dX0_putRight_20 ?_
    refine v_getI C (hI S 1 h0) fl_RX0_19 hk rfl dX0_putRight_21 ?_
    refine v_isub C dX0_putRight_24 ?_
    refine v_istore_n C [(3, .int ((hI S 3 h0) - (hI S 1 h0))), (2, .int (t - (hI S 3 h0))), (0, .ref h0), (1, .int t)] (by decide) rfl rfl dX0_putRight_25 ?_
    refine v_aload_n C 2 rfl rfl dX0_putRight_26 ?_
    refine v_getI C (hI S 0 h0) fl_RX0_7 hk rfl dX0_putRight_27 ?_
    refine v_iconst C 1 (by decide) dX0_putRight_30 ?_
    refine v_icmp_eq C 38 (by decide) dX0_putRight_31 (fun c31 => ?_) (fun c31 => ?_)
    · refine v_aload_n C 2 rfl rfl dX0_putRight_38 ?_
      refine v_getI C (hI S 4 h0) fl_RX0_16 hk rfl dX0_putRight_39 ?_
      refine v_iload_n C 1 rfl rfl dX0_putRight_42 ?_
      refine v_iadd C dX0_putRight_43 ?_
      exact v_iret C hRT (Nat.le_of_ble_eq_true rfl) (Nat.le_of_ble_eq_true rfl) dX0_putRight_44 ⟨_, rfl, by rw [if_neg c4, if_neg (fun q => q.1 c31)], rfl⟩
    · refine v_iload_n C 0 rfl rfl dX0_putRight_34 ?_
      refine v_if_gt C 45 (by decide) dX0_putRight_35 (fun c35 => ?_) (fun c35 => ?_)
      · refine v_aload_n C 2 rfl rfl dX0_putRight_45 ?_
        refine v_getI C (hI S 4 h0) fl_RX0_16 hk rfl dX0_putRight_46 ?_
        refine v_iload_n C 1 rfl rfl dX0_putRight_49 ?_
        refine v_aload_n C 2 rfl rfl dX0_putRight_50 ?_
        refine v_getI C (hI S 4 h0) fl_RX0_16 hk rfl dX0_putRight_51 ?_
        refine v_aload_n C 2 rfl rfl dX0_putRight_54 ?_
        refine v_getI C (hI S 2 h0) fl_RX0_22 hk rfl dX0_putRight_55 ?_
        refine v_isub C dX0_putRight_58 ?_
        refine v_imul C dX0_putRight_59 ?_
        refine v_iload_n C 0 rfl rfl dX0_putRight_60 ?_
        refine v_callSi C (st := [.int (hI S 4 h0)]) [.int ((t - (hI S 3 h0)) * ((hI S 4 h0) - (hI S 2 h0))), .int ((hI S 3 h0) - (hI S 1 h0))] (c_J9_floorDiv_7cf53 l S ((t - (hI S 3 h0)) * ((hI S 4 h0) - (hI S 2 h0))) ((hI S 3 h0) - (hI S 1 h0)) (fun q => absurd (q ▸ c35) (by decide))) ml_RX0_25 ms_yJ9_floorDiv_7cf53 rfl (Nat.le_of_ble_eq_true rfl) (Nat.le_of_ble_eq_true rfl) (Nat.le_of_ble_eq_true rfl) (Nat.le_of_ble_eq_true rfl) (Nat.le_of_ble_eq_true rfl) dX0_putRight_61 (fun r u h => ?_) _ rfl
        obtain ⟨rfl, rfl⟩ := h
        refine v_iadd C dX0_putRight_64 ?_
        exact v_iret C hRT (Nat.le_of_ble_eq_true rfl) (Nat.le_of_ble_eq_true rfl) dX0_putRight_65 ⟨_, rfl, by rw [if_neg c4, if_pos ⟨c31, c35⟩], rfl⟩
      · refine v_aload_n C 2 rfl rfl dX0_putRight_38 ?_
        refine v_getI C (hI S 4 h0) fl_RX0_16 hk rfl dX0_putRight_39 ?_
        refine v_iload_n C 1 rfl rfl dX0_putRight_42 ?_
        refine v_iadd C dX0_putRight_43 ?_
        exact v_iret C hRT (Nat.le_of_ble_eq_true rfl) (Nat.le_of_ble_eq_true rfl) dX0_putRight_44 ⟨_, rfl, by rw [if_neg c4, if_neg (fun q => c35 q.2)], rfl⟩
  · refine v_iload_n C 1 rfl rfl dX0_putRight_7 ?_
    exact v_iret C hRT (Nat.le_of_ble_eq_true rfl) (Nat.le_of_ble_eq_true rfl) dX0_putRight_8 ⟨_, rfl, by rw [if_pos c4], rfl⟩
set_option maxRecDepth 100000 in
set_option maxHeartbeats 4000000 in
theorem c_X2_init (l : Launch) (S : HS) (h0 : Nat) (hk : hK S h0 = 3) : cM l yX2_init cX2_init 1 (Option.none : Option Jvm.ClassFile.FieldType) 2 [.ref h0] S (pV fun u => S = u) 0 0 := by
  refine cM_intro (by decide +kernel) cd_X2_init (Nat.le_of_ble_eq_true rfl) ?_
  intro pP eE sS mM aA bB tT cC G A C hRT hin
  refine V.lvs (lv2 := [(0, .ref h0)]) rfl ?_
  refine v_aload_n C 0 rfl rfl dX2_init_0 ?_
  refine v_objInit C oi_RX2_1 (Nat.le_of_ble_eq_true rfl) (Nat.le_of_ble_eq_true rfl) (Nat.le_of_ble_eq_true rfl) dX2_init_1 ?_
  exact v_vret C hRT (Nat.le_of_ble_eq_true rfl) (Nat.le_of_ble_eq_true rfl) dX2_init_4 ⟨rfl, rfl⟩
set_option maxRecDepth 100000 in
set_option maxHeartbeats 4000000 in
theorem c_X2_fill (l : Launch) (S : HS) (h0 : Nat) (a b c0 : Int32) (hk : hK S h0 = 3) : cM l yX2_fill cX2_fill 4 (Option.none : Option Jvm.ClassFile.FieldType) 2 [.ref h0, .int a, .int b, .int c0] S (pV fun u => sI (sI (sI S 13 h0 a) 14 h0 b) 15 h0 c0 = u) 0 0 := by
  refine cM_intro (by decide +kernel) cd_X2_fill (Nat.le_of_ble_eq_true rfl) ?_
  intro pP eE sS mM aA bB tT cC G A C hRT hin
  refine V.lvs (lv2 := [(0, .ref h0), (1, .int a), (2, .int b), (3, .int c0)]) rfl ?_
  refine v_aload_n C 0 rfl rfl dX2_fill_0 ?_
  refine v_iload_n C 1 rfl rfl dX2_fill_1 ?_
  refine v_putI C fl_RX2_7 hk rfl rfl dX2_fill_2 ?_
  refine v_aload_n C 0 rfl rfl dX2_fill_5 ?_
  refine v_iload_n C 2 rfl rfl dX2_fill_6 ?_
  refine v_putI C fl_RX2_13 hk rfl rfl dX2_fill_7 ?_
  refine v_aload_n C 0 rfl rfl dX2_fill_10 ?_
  refine v_iload_n C 3 rfl rfl dX2_fill_11 ?_
  refine v_putI C fl_RX2_16 hk rfl rfl dX2_fill_12 ?_
  exact v_vret C hRT (Nat.le_of_ble_eq_true rfl) (Nat.le_of_ble_eq_true rfl) dX2_fill_15 ⟨rfl, rfl⟩
set_option maxRecDepth 100000 in
set_option maxHeartbeats 4000000 in
theorem c_X4_squareSum (l : Launch) (S : HS) (a b : Int32) : cM l yX4_squareSum cX4_squareSum 2 (Option.some Jvm.ClassFile.FieldType.long) 2 [.int a, .int b] S (pL fun r u => a.toInt64 * a.toInt64 + b.toInt64 * b.toInt64 = r ∧ S = u) 0 0 := by
  refine cM_intro (by decide +kernel) cd_X4_squareSum (Nat.le_of_ble_eq_true rfl) ?_
  intro pP eE sS mM aA bB tT cC G A C hRT hin
  refine V.lvs (lv2 := [(0, .int a), (1, .int b)]) rfl ?_
  refine v_iload_n C 0 rfl rfl dX4_squareSum_0 ?_
  refine v_i2l C dX4_squareSum_1 ?_
  refine v_iload_n C 0 rfl rfl dX4_squareSum_2 ?_
  refine v_i2l C dX4_squareSum_3 ?_
  refine v_lmul C dX4_squareSum_4 ?_
  refine v_iload_n C 1 rfl rfl dX4_squareSum_5 ?_
  refine v_i2l C dX4_squareSum_6 ?_
  refine v_iload_n C 1 rfl rfl dX4_squareSum_7 ?_
  refine v_i2l C dX4_squareSum_8 ?_
  refine v_lmul C dX4_squareSum_9 ?_
  refine v_ladd C dX4_squareSum_10 ?_
  exact v_lret C hRT (Nat.le_of_ble_eq_true rfl) (Nat.le_of_ble_eq_true rfl) dX4_squareSum_11 ⟨_, rfl, rfl, rfl⟩
set_option maxRecDepth 100000 in
set_option maxHeartbeats 4000000 in
theorem c_X4_squareOfSixteenths (l : Launch) (S : HS) (a : Int32) : cM l yX4_squareOfSixteenths cX4_squareOfSixteenths 1 (Option.some Jvm.ClassFile.FieldType.long) 4 [.int a] S (pL fun r u => (16 * a).toInt64 * (16 * a).toInt64 + (0 : Int32).toInt64 * (0 : Int32).toInt64 = r ∧ S = u) 0 0 := by
  refine cM_intro (by decide +kernel) cd_X4_squareOfSixteenths (Nat.le_of_ble_eq_true rfl) ?_
  intro pP eE sS mM aA bB tT cC G A C hRT hin
  refine V.lvs (lv2 := [(0, .int a)]) rfl ?_
  refine v_bipush C 16 (by decide) dX4_squareOfSixteenths_0 ?_
  refine v_iload_n C 0 rfl rfl dX4_squareOfSixteenths_2 ?_
  refine v_imul C dX4_squareOfSixteenths_3 ?_
  refine v_iconst C 0 (by decide) dX4_squareOfSixteenths_4 ?_
  refine v_callSl C (st := []) [.int (16 * a), .int 0] (c_X4_squareSum l S (16 * a) 0) ml_RX4_278 ms_yX4_squareSum rfl (Nat.le_of_ble_eq_true rfl) (Nat.le_of_ble_eq_true rfl) (Nat.le_of_ble_eq_true rfl) (Nat.le_of_ble_eq_true rfl) (Nat.le_of_ble_eq_true rfl) dX4_squareOfSixteenths_5 (fun r u h => ?_) _ rfl
  obtain ⟨rfl, rfl⟩ := h
  exact v_lret C hRT (Nat.le_of_ble_eq_true rfl) (Nat.le_of_ble_eq_true rfl) dX4_squareOfSixteenths_8 ⟨_, rfl, rfl, rfl⟩
set_option maxRecDepth 100000 in
set_option maxHeartbeats 4000000 in
theorem c_X4_isWithin (l : Launch) (S : HS) (a b c0 : Int32) : cM l yX4_isWithin cX4_isWithin 3 (Option.some Jvm.ClassFile.FieldType.boolean) 2 [.int a, .int b, .int c0] S (pI fun r u => bI (¬ a < b ∧ ¬ c0 < a) = r ∧ S = u) 0 0 := by
  refine cM_intro (by decide +kernel) cd_X4_isWithin (Nat.le_of_ble_eq_true rfl) ?_
  intro pP eE sS mM aA bB tT cC G A C hRT hin
  refine V.lvs (lv2 := [(0, .int a), (1, .int b), (2, .int c0)]) rfl ?_
  refine v_iload_n C 0 rfl rfl dX4_isWithin_0 ?_
  refine v_iload_n C 1 rfl rfl dX4_isWithin_1 ?_
  refine v_icmp_lt C 14 (by decide) dX4_isWithin_2 (fun c2 => ?_) (fun c2 => ?_)
  · refine v_iconst C 0 (by decide) dX4_isWithin_14 ?_
    exact v_zret C rfl hRT (Nat.le_of_ble_eq_true rfl) (Nat.le_of_ble_eq_true rfl) dX4_isWithin_15 ⟨_, rfl, by simp_all [bI], rfl⟩
  · refine v_iload_n C 0 rfl rfl dX4_isWithin_5 ?_
    refine v_iload_n C 2 rfl rfl dX4_isWithin_6 ?_
    refine v_icmp_gt C 14 (by decide) dX4_isWithin_7 (fun c7 => ?_) (fun c7 => ?_)
    · refine v_iconst C 0 (by decide) dX4_isWithin_14 ?_
      exact v_zret C rfl hRT (Nat.le_of_ble_eq_true rfl) (Nat.le_of_ble_eq_true rfl) dX4_isWithin_15 ⟨_, rfl, by simp_all [bI], rfl⟩
    · refine v_iconst C 1 (by decide) dX4_isWithin_10 ?_
      refine v_goto C 15 (by decide) dX4_isWithin_11 ?_
      exact v_zret C rfl hRT (Nat.le_of_ble_eq_true rfl) (Nat.le_of_ble_eq_true rfl) dX4_isWithin_15 ⟨_, rfl, by simp_all [bI], rfl⟩
set_option maxRecDepth 100000 in
set_option maxHeartbeats 4000000 in
theorem c_X4_isSensorTime (l : Launch) (S : HS) (a : Int32) : cM l yX4_isSensorTime cX4_isSensorTime 1 (Option.some Jvm.ClassFile.FieldType.boolean) 4 [.int a] S (pI fun r u => bI (¬ a < 0 ∧ ¬ 9999 < a) = r ∧ S = u) 0 0 := by
  refine cM_intro (by decide +kernel) cd_X4_isSensorTime (Nat.le_of_ble_eq_true rfl) ?_
  intro pP eE sS mM aA bB tT cC G A C hRT hin
  refine V.lvs (lv2 := [(0, .int a)]) rfl ?_
  refine v_iload_n C 0 rfl rfl dX4_isSensorTime_0 ?_
  refine v_iconst C 0 (by decide) dX4_isSensorTime_1 ?_
  refine v_sipush C 9999 (by decide) dX4_isSensorTime_2 ?_
  refine v_callSi C (st := []) [.int a, .int 0, .int 9999] (c_X4_isWithin l S a 0 9999) ml_RX4_86 ms_yX4_isWithin rfl (Nat.le_of_ble_eq_true rfl) (Nat.le_of_ble_eq_true rfl) (Nat.le_of_ble_eq_true rfl) (Nat.le_of_ble_eq_true rfl) (Nat.le_of_ble_eq_true rfl) dX4_isSensorTime_5 (fun r u h => ?_) _ rfl
  obtain ⟨rfl, rfl⟩ := h
  exact v_zret C (bI_nar _) hRT (Nat.le_of_ble_eq_true rfl) (Nat.le_of_ble_eq_true rfl) dX4_isSensorTime_8 ⟨_, rfl, rfl, rfl⟩
set_option maxRecDepth 100000 in
set_option maxHeartbeats 4000000 in
theorem c_X4_isAskedTime (l : Launch) (S : HS) (a : Int32) : cM l yX4_isAskedTime cX4_isAskedTime 1 (Option.some Jvm.ClassFile.FieldType.boolean) 4 [.int a] S (pI fun r u => bI (¬ a < (-9999) ∧ ¬ 39999 < a) = r ∧ S = u) 0 0 := by
  refine cM_intro (by decide +kernel) cd_X4_isAskedTime (Nat.le_of_ble_eq_true rfl) ?_
  intro pP eE sS mM aA bB tT cC G A C hRT hin
  refine V.lvs (lv2 := [(0, .int a)]) rfl ?_
  refine v_iload_n C 0 rfl rfl dX4_isAskedTime_0 ?_
  refine v_sipush C (-9999) (by decide) dX4_isAskedTime_1 ?_
  refine v_ldcw C kc_RX4_362 dX4_isAskedTime_4 ?_
  refine v_callSi C (st := []) [.int a, .int (-9999), .int 39999] (c_X4_isWithin l S a (-9999) 39999) ml_RX4_86 ms_yX4_isWithin rfl (Nat.le_of_ble_eq_true rfl) (Nat.le_of_ble_eq_true rfl) (Nat.le_of_ble_eq_true rfl) (Nat.le_of_ble_eq_true rfl) (Nat.le_of_ble_eq_true rfl) dX4_isAskedTime_7 (fun r u h => ?_) _ rfl
  obtain ⟨rfl, rfl⟩ := h
  exact v_zret C (bI_nar _) hRT (Nat.le_of_ble_eq_true rfl) (Nat.le_of_ble_eq_true rfl) dX4_isAskedTime_10 ⟨_, rfl, rfl, rfl⟩
set_option maxRecDepth 100000 in
set_option maxHeartbeats 4000000 in
theorem c_X4_isPlace (l : Launch) (S : HS) (a : Int32) : cM l yX4_isPlace cX4_isPlace 1 (Option.some Jvm.ClassFile.FieldType.boolean) 4 [.int a] S (pI fun r u => bI (¬ a < (-999) ∧ ¬ 999 < a) = r ∧ S = u) 0 0 := by
  refine cM_intro (by decide +kernel) cd_X4_isPlace (Nat.le_of_ble_eq_true rfl) ?_
  intro pP eE sS mM aA bB tT cC G A C hRT hin
  refine V.lvs (lv2 := [(0, .int a)]) rfl ?_
  refine v_iload_n C 0 rfl rfl dX4_isPlace_0 ?_
  refine v_sipush C (-999) (by decide) dX4_isPlace_1 ?_
  refine v_sipush C 999 (by decide) dX4_isPlace_4 ?_
  refine v_callSi C (st := []) [.int a, .int (-999), .int 999] (c_X4_isWithin l S a (-999) 999) ml_RX4_86 ms_yX4_isWithin rfl (Nat.le_of_ble_eq_true rfl) (Nat.le_of_ble_eq_true rfl) (Nat.le_of_ble_eq_true rfl) (Nat.le_of_ble_eq_true rfl) (Nat.le_of_ble_eq_true rfl) dX4_isPlace_7 (fun r u h => ?_) _ rfl
  obtain ⟨rfl, rfl⟩ := h
  exact v_zret C (bI_nar _) hRT (Nat.le_of_ble_eq_true rfl) (Nat.le_of_ble_eq_true rfl) dX4_isPlace_10 ⟨_, rfl, rfl, rfl⟩
set_option maxRecDepth 100000 in
set_option maxHeartbeats 4000000 in
theorem c_X3_xAt (l : Launch) (S : HS) (h0 : Nat) (t : Int32) (hk : hK S h0 = 4) : cM l yX3_xAt cX3_xAt 2 (Option.some Jvm.ClassFile.FieldType.int) 2 [.ref h0, .int t] S (pI fun r u => hI S 18 h0 + hI S 20 h0 * (t - hI S 17 h0) = r ∧ S = u) 0 0 := by
  refine cM_intro (by decide +kernel) cd_X3_xAt (Nat.le_of_ble_eq_true rfl) ?_
  intro pP eE sS mM aA bB tT cC G A C hRT hin
  refine V.lvs (lv2 := [(0, .ref h0), (1, .int t)]) rfl ?_
  refine v_aload_n C 0 rfl rfl dX3_xAt_0 ?_
  refine v_getI C (hI S 18 h0) fl_RX3_38 hk rfl dX3_xAt_1 ?_
  refine v_aload_n C 0 rfl rfl dX3_xAt_4 ?_
  refine v_getI C (hI S 20 h0) fl_RX3_46 hk rfl dX3_xAt_5 ?_
  refine v_iload_n C 1 rfl rfl dX3_xAt_8 ?_
  refine v_aload_n C 0 rfl rfl dX3_xAt_9 ?_
  refine v_getI C (hI S 17 h0) fl_RX3_34 hk rfl dX3_xAt_10 ?_
  refine v_isub C dX3_xAt_13 ?_
  refine v_imul C dX3_xAt_14 ?_
  refine v_iadd C dX3_xAt_15 ?_
  exact v_iret C hRT (Nat.le_of_ble_eq_true rfl) (Nat.le_of_ble_eq_true rfl) dX3_xAt_16 ⟨_, rfl, rfl, rfl⟩
set_option maxRecDepth 100000 in
set_option maxHeartbeats 4000000 in
theorem c_X3_yAt (l : Launch) (S : HS) (h0 : Nat) (t : Int32) (hk : hK S h0 = 4) : cM l yX3_yAt cX3_yAt 2 (Option.some Jvm.ClassFile.FieldType.int) 2 [.ref h0, .int t] S (pI fun r u => hI S 19 h0 + hI S 21 h0 * (t - hI S 17 h0) = r ∧ S = u) 0 0 := by
  refine cM_intro (by decide +kernel) cd_X3_yAt (Nat.le_of_ble_eq_true rfl) ?_
  intro pP eE sS mM aA bB tT cC G A C hRT hin
  refine V.lvs (lv2 := [(0, .ref h0), (1, .int t)]) rfl ?_
  refine v_aload_n C 0 rfl rfl dX3_yAt_0 ?_
  refine v_getI C (hI S 19 h0) fl_RX3_42 hk rfl dX3_yAt_1 ?_
  refine v_aload_n C 0 rfl rfl dX3_yAt_4 ?_
  refine v_getI C (hI S 21 h0) fl_RX3_49 hk rfl dX3_yAt_5 ?_
  refine v_iload_n C 1 rfl rfl dX3_yAt_8 ?_
  refine v_aload_n C 0 rfl rfl dX3_yAt_9 ?_
  refine v_getI C (hI S 17 h0) fl_RX3_34 hk rfl dX3_yAt_10 ?_
  refine v_isub C dX3_yAt_13 ?_
  refine v_imul C dX3_yAt_14 ?_
  refine v_iadd C dX3_yAt_15 ?_
  exact v_iret C hRT (Nat.le_of_ble_eq_true rfl) (Nat.le_of_ble_eq_true rfl) dX3_yAt_16 ⟨_, rfl, rfl, rfl⟩
