set_option maxRecDepth 100000 in
set_option maxHeartbeats 4000000 in
theorem lp_X5_pr3 {l : Launch} {pP : Program} {eE : Env} {sS : State} {mM : MethodId} {aA : Array Value} {bB : List Frame} {tT : Method} {cC : Code} {G : GT} {A : Nat → Prop} {Q : State → Prop}  (S : HS) (x0 : Nat) (q : AS) (hB : BI q) (B : Nat) (hh : HB q B) (hb : B ≤ 258) (hSG : SGB q) (hIT : ITO q) (x1 : Int32)  (C : Cx pP l eE (rmD 22 36 21152) sS mM aA bB tT cC cX5_process 5 RX5 G A) (kk : ∀ (T : HS) (am : AM) (k0 n0 : Nat), am 0 = x0 → PZ T am q (BG q (cn q 0)) → k0 ≤ 24 → n0 ≤ 13232 → V pP l eE (rmD 22 36 21152) sS mM aA bB tT cC 5 G A T k0 n0 Q 188 [(0, .ref x0), (1, .int x1), (3, .int (nI (cn q 0)))] []) : ∀ (N : Nat) (r : Nat) (T : HS) (am : AM) (k0 n0 : Nat), (hN9 : cn q 0 + 1 ≤ r + N) → (hi : r ≤ cn q 0) → (hx : am 0 = x0) → (hP : PZ T am q (BG q r)) → (hkn : k0 ≤ 16 + 2 * r ∧ n0 ≤ 10560 + 668 * r) → V pP l eE (rmD 22 36 21152) sS mM aA bB tT cC 5 G A T k0 n0 Q 159 [(0, .ref x0), (1, .int x1), (3, .int (nI r))] [] := by
  intro N
  induction N with
  | zero =>
    intro r T am k0 n0 hN9 hi hx hP hkn
    exact absurd hN9 (by omega)
  | succ N ih =>
    intro r T am k0 n0 hN9 hi hx hP hkn
    subst hx
    obtain ⟨hk0, hn0⟩ := hkn
    obtain ⟨g1, g2, g3, g4⟩ := BG_I hB hh (by omega) r hi
    have h04 := hB.b0
    have e0 := g3 0 (by decide) (by decide) (by decide)
    have hSg := (BG_K hB hh (by omega) hSG hIT r hi).1
    have hv50 : hI T 50 (am 0) = nI (cn q 0) := by rw [hP.2.1.v50, e0]
    refine v_iload_n C 2 rfl rfl dX5_process_159 ?_
    refine v_aload_n C 0 rfl rfl dX5_process_160 ?_
    refine v_getI C (nI (cn q 0)) fl_RX5_111 hP.1.k0 hv50 dX5_process_161 ?_
    refine v_icmp_ge C 188 (by decide) dX5_process_164 (fun c164 => ?_) (fun c164 => ?_)
    · obtain rfl : r = cn q 0 := by have := nge c164 (by omega); omega
      exact V.sub [0, 1, 2] rfl (kk T am k0 n0 rfl hP (by omega) (by omega))
    · have hlt : r < cn q 0 := nlt c164 (by omega)
      refine v_aload_n C 0 rfl rfl dX5_process_167 ?_
      refine v_getR C (am 10) fl_RX5_56 hP.1.k0 hP.1.r59 dX5_process_168 ?_
      refine v_iload_n C 2 rfl rfl dX5_process_171 ?_
      refine v_iald C (iO (gtA q r)) hP.1.k10 (vpi hP.1.n10 (vp_in_nI (by omega) (by decide))) ((congrArg _ (nI_clamp (by omega))).trans (hP.2.2.2 r hlt)) dX5_process_172 ?_
      refine v_iconst C (-1) (by decide) dX5_process_173 ?_
      refine v_icmp_ne C 182 (by decide) dX5_process_174 (fun c174 => ?_) (fun c174 => ?_)
      · refine v_iinc C (nI (r + 1)) 2 [(3, .int (nI (r + 1))), (0, .ref (am 0)), (1, .int x1)] rfl (by rw [← nI_1]; rfl) (by decide) rfl dX5_process_182 ?_
        refine v_goto C 159 (by decide) dX5_process_185 ?_
        have ef := BG_tk (fun z => c174 ((gt_n hB hlt).mpr z))
        refine V.sub [1, 2, 0] rfl ?_
        exact ih (r + 1) T am k0 n0 (by omega) hlt rfl (by rw [ef]; exact hP) ⟨by omega, by omega⟩
      · refine v_aload_n C 0 rfl rfl dX5_process_177 ?_
        refine v_iload_n C 2 rfl rfl dX5_process_178 ?_
        have hneg := (gt_n hB hlt).mp c174
        have ef := BG_bg hneg
        refine v_callVv C (st := []) [.int (nI r)] (c_X5_begins l T am (BG q r) g1 hP.1 hP.2.1 hSg r (by omega)) ml_RX5_189 mi_yX5_begins hP.1.k0 (by decide) (by decide +kernel) rfl (Nat.le_of_ble_eq_true rfl) (Nat.le_of_ble_eq_true rfl) (Nat.le_of_ble_eq_true rfl) (by show k0 + 2 ≤ 36; omega) (by show n0 + 668 ≤ 21152; omega) dX5_process_179 (fun u h => ?_) _ rfl
        obtain ⟨am2, e2, gA, gV, gF⟩ := h
        have hP2 : PZ u am2 q (BG q (r + 1)) := by rw [ef]; exact hP.to e2 gA gV gF
        refine v_iinc C (nI (r + 1)) 2 [(3, .int (nI (r + 1))), (0, .ref (am 0)), (1, .int x1)] rfl (by rw [← nI_1]; rfl) (by decide) rfl dX5_process_182 ?_
        refine v_goto C 159 (by decide) dX5_process_185 ?_
        refine V.sub [1, 2, 0] rfl ?_
        exact ih (r + 1) u am2 (k0 + 2) (n0 + 668) (by omega) hlt (e2 0 (by decide)) hP2 ⟨by omega, by omega⟩
theorem ZI_I {p : AS} (hB : BI p) {a B : Nat} (hh : HB p B) (hB3 : B ≤ 301) {b : Nat} (hb : b ≤ cn p 1) : NI p (ZI p a b) B ∧ liveP (ZI p a b) a = liveP p a := by
  unfold ZI
  split
  · exact MI_I hB hh hB3 b hb
  · exact ⟨⟨hB, hh, Low.rf⟩, rfl⟩
theorem ZI_K {p : AS} (hB : BI p) {a B : Nat} (hh : HB p B) (hB3 : B ≤ 301) (ha : a < cn p 1) (h : SGB p) (g : ITO p) {b : Nat} (hb : b ≤ cn p 1) : SGB (ZI p a b) := by
  unfold ZI
  split
  · exact (MI_K hB hh hB3 ha h g b hb).1
  · exact h
theorem ZI_n {p : AS} {a b : Nat} (h : ¬ (liveP (ZI p a b) a = true ∧ liveP (ZI p a b) b = true ∧ nrA (ZI p a b) a b = true)) (hl : liveP (ZI p a b) a = liveP p a) : ZI p a (b + 1) = ZI p a b := by
  rw [hl] at h
  unfold ZI at h ⊢
  by_cases c : liveP p a = true
  · rw [if_pos c] at h ⊢
    rw [if_pos c]
    exact MI_n (fun z => h ⟨c, z.2.1, z.2.2⟩)
  · rw [if_neg c, if_neg c]
theorem ZI_y {p : AS} {a b : Nat} (hab : a < b) (h : liveP (ZI p a b) a = true ∧ liveP (ZI p a b) b = true ∧ nrA (ZI p a b) a b = true) (hl : liveP (ZI p a b) a = liveP p a) : ZI p a (b + 1) = mrgA (ZI p a b) a b := by
  rw [hl] at h
  unfold ZI at h ⊢
  rw [if_pos h.1] at h ⊢
  rw [if_pos h.1]
  exact MI_y ⟨hab, h.2.1, h.2.2⟩
theorem ZI_0 {p : AS} {a : Nat} : ZI p a (a + 1) = p := by
  unfold ZI
  split
  · exact MI_le _ (Nat.le_refl _)
  · rfl
theorem ZI_e {q : AS} {a : Nat} : ZI (MA q a) a (cn (MA q a) 1) = MA q (a + 1) := by
  unfold ZI
  by_cases c : liveP (MA q a) a = true
  · rw [if_pos c, MA_y c]
  · rw [if_neg c, MA_n c]
set_option maxRecDepth 100000 in
set_option maxHeartbeats 4000000 in
theorem lp_X5_pr4i {l : Launch} {pP : Program} {eE : Env} {sS : State} {mM : MethodId} {aA : Array Value} {bB : List Frame} {tT : Method} {cC : Code} {G : GT} {A : Nat → Prop} {Q : State → Prop}  (S : HS) (x0 : Nat) (q p : AS) (B : Nat) (hBp : BI p) (hhp : HB p B) (hb9 : B ≤ 259) (hb3 : B ≤ 301) (hSp : SGB p) (hTp : ITO p) (a : Nat) (ha : a < cn p 1) (x1 : Int32)  (C : Cx pP l eE (rmD 22 36 21152) sS mM aA bB tT cC cX5_process 5 RX5 G A) (kk : ∀ (T : HS) (am : AM) (k0 n0 : Nat), am 0 = x0 → PZ T am q (ZI p a (cn p 1)) → (k0 + 2 * lcn (ZI p a (cn p 1)) ≤ 36 ∧ n0 + 1320 * lcn (ZI p a (cn p 1)) ≤ 21152) → V pP l eE (rmD 22 36 21152) sS mM aA bB tT cC 5 G A T k0 n0 Q 298 [(0, .ref x0), (1, .int x1), (3, .int (nI a))] []) : ∀ (N : Nat) (b : Nat) (T : HS) (am : AM) (k0 n0 : Nat), (hN9 : cn p 1 + 1 ≤ b + N) → (hab : a + 1 ≤ b) → (hi : b ≤ cn p 1) → (hx : am 0 = x0) → (hP : PZ T am q (ZI p a b)) → (hkn : k0 + 2 * lcn (ZI p a b) ≤ 36 ∧ n0 + 1320 * lcn (ZI p a b) ≤ 21152) → V pP l eE (rmD 22 36 21152) sS mM aA bB tT cC 5 G A T k0 n0 Q 203 [(0, .ref x0), (1, .int x1), (3, .int (nI a)), (4, .int (nI b))] [] := by
  intro N
  induction N with
  | zero =>
    intro b T am k0 n0 hN9 hab hi hx hP hkn
    exact absurd hN9 (by omega)
  | succ N ih =>
    intro b T am k0 n0 hN9 hab hi hx hP hkn
    subst hx
    obtain ⟨hk0, hn0⟩ := hkn
    obtain ⟨⟨z1, z2, z3⟩, hla⟩ := ZI_I hBp (a := a) hhp hb3 hi
    have e1 := z3.1 1 (by decide)
    have h60 := hBp.b1
    have hSz := ZI_K hBp (a := a) hhp hb3 ha hSp hTp hi
    have hv44 : hI T 44 (am 0) = nI (cn p 1) := by rw [hP.2.1.v44, e1]
    refine v_iload C 3 rfl dX5_process_203 ?_
    refine v_aload_n C 0 rfl rfl dX5_process_205 ?_
    refine v_getI C (nI (cn p 1)) fl_RX5_71 hP.1.k0 hv44 dX5_process_206 ?_
    refine v_icmp_ge C 298 (by decide) dX5_process_209 (fun c209 => ?_) (fun c209 => ?_)
    · obtain rfl : b = cn p 1 := by have := nge c209 (by omega); omega
      exact V.sub [0, 1, 2] rfl (kk T am k0 n0 rfl hP ⟨hk0, hn0⟩)
    · have hlt : b < cn p 1 := nlt c209 (by omega)
      have hbz : b < cn (ZI p a b) 1 := by omega
      have haz : a < cn (ZI p a b) 1 := by omega
      have hca := z2 a haz
      have hcb := z2 b hbz
      have hne : a ≠ b := by omega
      refine v_aload_n C 0 rfl rfl dX5_process_212 ?_
      refine v_iload_n C 2 rfl rfl dX5_process_213 ?_
      refine v_callVi C (st := []) [.int (nI a)] (c_X5_isLive l T am (ZI p a b) z1 (hP).1 (hP).2.1 a haz) ml_RX5_123 mi_yX5_isLive (hP).1.k0 (by decide) (by decide +kernel) rfl (Nat.le_of_ble_eq_true rfl) (Nat.le_of_ble_eq_true rfl) (Nat.le_of_ble_eq_true rfl) (by show k0 + 0 ≤ 36; omega) (by show n0 + 0 ≤ 21152; omega) dX5_process_214 (fun r u h => ?_) _ rfl
      obtain ⟨rfl, rfl⟩ := h
      refine v_if_eq C 292 (by decide) dX5_process_217 (fun c217 => ?_) (fun c217 => ?_)
      · refine v_iinc C (nI (b + 1)) 3 [(4, .int (nI (b + 1))), (0, .ref (am 0)), (1, .int x1), (3, .int (nI a))] rfl (by rw [← nI_1]; rfl) (by decide) rfl dX5_process_292 ?_
        refine v_goto C 203 (by decide) dX5_process_295 ?_
        have ef := ZI_n (p := p) (a := a) (b := b) (fun z => bI_e0 c217 (of_decide_eq_true z.1)) hla
        refine V.sub [1, 2, 3, 0] rfl ?_
        exact ih (b + 1) T am k0 n0 (by omega) (by omega) hlt rfl (by rw [ef]; exact hP) ⟨by rw [ef]; exact hk0, by rw [ef]; exact hn0⟩
      · refine v_aload_n C 0 rfl rfl dX5_process_220 ?_
        refine v_iload C 3 rfl dX5_process_221 ?_
        refine v_callVi C (st := []) [.int (nI b)] (c_X5_isLive l T am (ZI p a b) z1 (hP).1 (hP).2.1 b hbz) ml_RX5_123 mi_yX5_isLive (hP).1.k0 (by decide) (by decide +kernel) rfl (Nat.le_of_ble_eq_true rfl) (Nat.le_of_ble_eq_true rfl) (Nat.le_of_ble_eq_true rfl) (by show k0 + 0 ≤ 36; omega) (by show n0 + 0 ≤ 21152; omega) dX5_process_223 (fun r u h => ?_) _ rfl
        obtain ⟨rfl, rfl⟩ := h
        refine v_if_eq C 292 (by decide) dX5_process_226 (fun c226 => ?_) (fun c226 => ?_)
        · refine v_iinc C (nI (b + 1)) 3 [(4, .int (nI (b + 1))), (0, .ref (am 0)), (1, .int x1), (3, .int (nI a))] rfl (by rw [← nI_1]; rfl) (by decide) rfl dX5_process_292 ?_
          refine v_goto C 203 (by decide) dX5_process_295 ?_
          have ef := ZI_n (p := p) (a := a) (b := b) (fun z => bI_e0 c226 (of_decide_eq_true z.2.1)) hla
          refine V.sub [1, 2, 3, 0] rfl ?_
          exact ih (b + 1) T am k0 n0 (by omega) (by omega) hlt rfl (by rw [ef]; exact hP) ⟨by rw [ef]; exact hk0, by rw [ef]; exact hn0⟩
        · refine v_aload_n C 0 rfl rfl dX5_process_229 ?_
          refine v_iload_n C 2 rfl rfl dX5_process_230 ?_
          refine v_iload C 3 rfl dX5_process_231 ?_
          refine v_callVi C (st := []) [.int (nI a), .int (nI b)] (c_X5_areNear l T am (ZI p a b) z1 (hP).1 (hP).2.1 a b haz hbz) ml_RX5_193 mi_yX5_areNear (hP).1.k0 (by decide) (by decide +kernel) rfl (Nat.le_of_ble_eq_true rfl) (Nat.le_of_ble_eq_true rfl) (Nat.le_of_ble_eq_true rfl) (by show k0 + 0 ≤ 36; omega) (by show n0 + 0 ≤ 21152; omega) dX5_process_233 (fun r u h => ?_) _ rfl
          obtain ⟨rfl, rfl⟩ := h
          refine v_if_eq C 292 (by decide) dX5_process_236 (fun c236 => ?_) (fun c236 => ?_)
          · refine v_iinc C (nI (b + 1)) 3 [(4, .int (nI (b + 1))), (0, .ref (am 0)), (1, .int x1), (3, .int (nI a))] rfl (by rw [← nI_1]; rfl) (by decide) rfl dX5_process_292 ?_
            refine v_goto C 203 (by decide) dX5_process_295 ?_
            have ef := ZI_n (p := p) (a := a) (b := b) (fun z => bI_e0 c236 z.2.2) hla
            refine V.sub [1, 2, 3, 0] rfl ?_
            exact ih (b + 1) T am k0 n0 (by omega) (by omega) hlt rfl (by rw [ef]; exact hP) ⟨by rw [ef]; exact hk0, by rw [ef]; exact hn0⟩
          · have hy : liveP (ZI p a b) a = true ∧ liveP (ZI p a b) b = true ∧ nrA (ZI p a b) a b = true := ⟨decide_eq_true (bI_n0 c217), decide_eq_true (bI_n0 c226), bI_n0 c236⟩
            have ef := ZI_y (by omega) hy hla
            have hml := mrg_lcn (a := a) z1 hbz (by omega) hy.2.1 z2 (by omega)
            refine v_aload_n C 0 rfl rfl dX5_process_239 ?_
            refine v_iload_n C 2 rfl rfl dX5_process_240 ?_
            refine v_iconst C 5 (by decide) dX5_process_241 ?_
            refine v_aload_n C 0 rfl rfl dX5_process_242 ?_
            refine v_iload_n C 2 rfl rfl dX5_process_243 ?_
            refine v_iconst C 5 (by decide) dX5_process_244 ?_
            refine v_callVi C (st := [.int 5, .int (nI a), .ref (am 0)]) [.int (nI a), .int 5] (c_X5_of l T am (cn (ZI p a b) 1) a 5 (by have := ((hP).1).hn; have := haz; omega) (by omega) (hP).1) ml_RX5_74 mi_yX5_of (hP).1.k0 (by decide) (by decide +kernel) rfl (Nat.le_of_ble_eq_true rfl) (Nat.le_of_ble_eq_true rfl) (Nat.le_of_ble_eq_true rfl) (by show k0 + 0 ≤ 36; omega) (by show n0 + 0 ≤ 21152; omega) dX5_process_245 (fun r u h => ?_) _ rfl
            obtain ⟨rfl, rfl⟩ := h
            rw [((hP).2.1).m a haz 5 (by omega)]
            refine v_aload_n C 0 rfl rfl dX5_process_248 ?_
            refine v_iload C 3 rfl dX5_process_249 ?_
            refine v_iconst C 5 (by decide) dX5_process_251 ?_
            refine v_callVi C (st := [.int (iO (zz (ZI p a b) 3 a 5)), .int 5, .int (nI a), .ref (am 0)]) [.int (nI b), .int 5] (c_X5_of l T am (cn (ZI p a b) 1) b 5 (by have := ((hP).1).hn; have := hbz; omega) (by omega) (hP).1) ml_RX5_74 mi_yX5_of (hP).1.k0 (by decide) (by decide +kernel) rfl (Nat.le_of_ble_eq_true rfl) (Nat.le_of_ble_eq_true rfl) (Nat.le_of_ble_eq_true rfl) (by show k0 + 0 ≤ 36; omega) (by show n0 + 0 ≤ 21152; omega) dX5_process_252 (fun r u h => ?_) _ rfl
            obtain ⟨rfl, rfl⟩ := h
            rw [((hP).2.1).m b hbz 5 (by omega)]
            refine v_iadd C dX5_process_255 ?_
            rw [iO_add]
            refine v_callVv C (st := []) [.int (nI a), .int 5, .int (iO (zz (ZI p a b) 3 a 5 + zz (ZI p a b) 3 b 5))] (c_X5_lays l T (iO (zz (ZI p a b) 3 a 5 + zz (ZI p a b) 3 b 5)) am (cn (ZI p a b) 1) a 5 (by have := ((hP).1).hn; have := haz; omega) (by omega) (hP).1) ml_RX5_158 mi_yX5_lays (hP).1.k0 (by decide) (by decide +kernel) rfl (Nat.le_of_ble_eq_true rfl) (Nat.le_of_ble_eq_true rfl) (Nat.le_of_ble_eq_true rfl) (by show k0 + 0 ≤ 36; omega) (by show n0 + 0 ≤ 21152; omega) dX5_process_256 (fun u h => ?_) _ rfl
            subst h
            have hQ1 : PZ (tI T (am 3) (9 * a + 5) (iO (zz (ZI p a b) 3 a 5 + zz (ZI p a b) 3 b 5))) am q (zs (ZI p a b) 3 a 5 (zz (ZI p a b) 3 a 5 + zz (ZI p a b) 3 b 5)) := PZ.lay hP (by decide) rfl
            refine v_aload_n C 0 rfl rfl dX5_process_259 ?_
            refine v_iload C 3 rfl dX5_process_260 ?_
            refine v_bipush C 7 (by decide) dX5_process_262 ?_
            refine v_iconst C 2 (by decide) dX5_process_264 ?_
            refine v_callVv C (st := []) [.int (nI b), .int 7, .int 2] (c_X5_lays l (tI T (am 3) (9 * a + 5) (iO (zz (ZI p a b) 3 a 5 + zz (ZI p a b) 3 b 5))) 2 am (cn (zs (ZI p a b) 3 a 5 (zz (ZI p a b) 3 a 5 + zz (ZI p a b) 3 b 5)) 1) b 7 (by have := ((hQ1).1).hn; have := hbz; omega) (by omega) (hQ1).1) ml_RX5_158 mi_yX5_lays (hQ1).1.k0 (by decide) (by decide +kernel) rfl (Nat.le_of_ble_eq_true rfl) (Nat.le_of_ble_eq_true rfl) (Nat.le_of_ble_eq_true rfl) (by show k0 + 0 ≤ 36; omega) (by show n0 + 0 ≤ 21152; omega) dX5_process_265 (fun u h => ?_) _ rfl
            subst h
            have hQ2 : PZ (tI (tI T (am 3) (9 * a + 5) (iO (zz (ZI p a b) 3 a 5 + zz (ZI p a b) 3 b 5))) (am 3) (9 * b + 7) 2) am q (zs (zs (ZI p a b) 3 a 5 (zz (ZI p a b) 3 a 5 + zz (ZI p a b) 3 b 5)) 3 b 7 2) := PZ.lay hQ1 (by decide) rfl
            refine v_aload_n C 0 rfl rfl dX5_process_268 ?_
            refine v_iload C 3 rfl dX5_process_269 ?_
            refine v_bipush C 8 (by decide) dX5_process_271 ?_
            refine v_iload_n C 2 rfl rfl dX5_process_273 ?_
            refine v_callVv C (st := []) [.int (nI b), .int 8, .int (nI a)] (c_X5_lays l (tI (tI T (am 3) (9 * a + 5) (iO (zz (ZI p a b) 3 a 5 + zz (ZI p a b) 3 b 5))) (am 3) (9 * b + 7) 2) (nI a) am (cn (zs (zs (ZI p a b) 3 a 5 (zz (ZI p a b) 3 a 5 + zz (ZI p a b) 3 b 5)) 3 b 7 2) 1) b 8 (by have := ((hQ2).1).hn; have := hbz; omega) (by omega) (hQ2).1) ml_RX5_158 mi_yX5_lays (hQ2).1.k0 (by decide) (by decide +kernel) rfl (Nat.le_of_ble_eq_true rfl) (Nat.le_of_ble_eq_true rfl) (Nat.le_of_ble_eq_true rfl) (by show k0 + 0 ≤ 36; omega) (by show n0 + 0 ≤ 21152; omega) dX5_process_274 (fun u h => ?_) _ rfl
            subst h
            have hQ3 : PZ (tI (tI (tI T (am 3) (9 * a + 5) (iO (zz (ZI p a b) 3 a 5 + zz (ZI p a b) 3 b 5))) (am 3) (9 * b + 7) 2) (am 3) (9 * b + 8) (nI a)) am q (zs (zs (zs (ZI p a b) 3 a 5 (zz (ZI p a b) 3 a 5 + zz (ZI p a b) 3 b 5)) 3 b 7 2) 3 b 8 (a : Int)) := PZ.lay hQ2 (by decide) (nI_iO a)
            refine v_aload_n C 0 rfl rfl dX5_process_277 ?_
            refine v_iload C 3 rfl dX5_process_278 ?_
            refine v_bipush C 109 (by decide) dX5_process_280 ?_
            refine v_callVv C (st := []) [.int (nI b), .int 109] (c_X5_notesP l (tI (tI (tI T (am 3) (9 * a + 5) (iO (zz (ZI p a b) 3 a 5 + zz (ZI p a b) 3 b 5))) (am 3) (9 * b + 7) 2) (am 3) (9 * b + 8) (nI a)) am q (zs (zs (zs (ZI p a b) 3 a 5 (zz (ZI p a b) 3 a 5 + zz (ZI p a b) 3 b 5)) 3 b 7 2) 3 b 8 (a : Int)) hQ3 (show SGB (zs (zs (zs (ZI p a b) 3 a 5 (zz (ZI p a b) 3 a 5 + zz (ZI p a b) 3 b 5)) 3 b 7 2) 3 b 8 (a : Int)) from fun t9 h9 k9 hk9 => hSz t9 h9 k9 hk9) b 109 109 rfl (by decide) hbz (show cn (ZI p a b) (100 + b) ≤ 330 by omega)) ml_RX5_162 mi_yX5_notes (hQ3).1.k0 (by decide) (by decide +kernel) rfl (Nat.le_of_ble_eq_true rfl) (Nat.le_of_ble_eq_true rfl) (Nat.le_of_ble_eq_true rfl) (by show k0 + 1 ≤ 36; omega) (by show n0 + 660 ≤ 21152; omega) dX5_process_282 (fun u1 h => ?_) _ rfl
            obtain ⟨am4, ea4, hQ4⟩ := h
            refine V.lvs (lv2 := [(0, .ref (am4 0)), (1, .int x1), (3, .int (nI a)), (4, .int (nI b))]) (by rw [ea4]) ?_
            have hs4 : cn (ntA (zs (zs (zs (ZI p a b) 3 a 5 (zz (ZI p a b) 3 a 5 + zz (ZI p a b) 3 b 5)) 3 b 7 2) 3 b 8 (a : Int)) b 109) 1 = cn (zs (zs (zs (ZI p a b) 3 a 5 (zz (ZI p a b) 3 a 5 + zz (ZI p a b) 3 b 5)) 3 b 7 2) 3 b 8 (a : Int)) 1 := (QT.nt (q := (zs (zs (zs (ZI p a b) 3 a 5 (zz (ZI p a b) 3 a 5 + zz (ZI p a b) 3 b 5)) 3 b 7 2) 3 b 8 (a : Int))) (t := b) (x := 109)).1 1 (by omega)
            refine v_aload_n C 0 rfl rfl dX5_process_285 ?_
            refine v_iload_n C 2 rfl rfl dX5_process_286 ?_
            refine v_bipush C 103 (by decide) dX5_process_287 ?_
            refine v_callVv C (st := []) [.int (nI a), .int 103] (c_X5_notesP l u1 am4 q (ntA (zs (zs (zs (ZI p a b) 3 a 5 (zz (ZI p a b) 3 a 5 + zz (ZI p a b) 3 b 5)) 3 b 7 2) 3 b 8 (a : Int)) b 109) hQ4 (SGB.nt (q := (zs (zs (zs (ZI p a b) 3 a 5 (zz (ZI p a b) 3 a 5 + zz (ZI p a b) 3 b 5)) 3 b 7 2) 3 b 8 (a : Int))) (show SGB (zs (zs (zs (ZI p a b) 3 a 5 (zz (ZI p a b) 3 a 5 + zz (ZI p a b) 3 b 5)) 3 b 7 2) 3 b 8 (a : Int)) from fun t9 h9 k9 hk9 => hSz t9 h9 k9 hk9) (by unfold bd; omega)) a 103 103 rfl (by decide) (show a < cn (ntA (zs (zs (zs (ZI p a b) 3 a 5 (zz (ZI p a b) 3 a 5 + zz (ZI p a b) 3 b 5)) 3 b 7 2) 3 b 8 (a : Int)) b 109) 1 by rw [hs4]; exact haz) (show cn (ntA (zs (zs (zs (ZI p a b) 3 a 5 (zz (ZI p a b) 3 a 5 + zz (ZI p a b) 3 b 5)) 3 b 7 2) 3 b 8 (a : Int)) b 109) (100 + a) ≤ 330 from by rw [cn_nt, if_neg (by omega)]; show cn (ZI p a b) (100 + a) ≤ 330; omega)) ml_RX5_162 mi_yX5_notes (hQ4).1.k0 (by decide) (by decide +kernel) rfl (Nat.le_of_ble_eq_true rfl) (Nat.le_of_ble_eq_true rfl) (Nat.le_of_ble_eq_true rfl) (by show k0 + 1 + 1 ≤ 36; omega) (by show n0 + 660 + 660 ≤ 21152; omega) dX5_process_289 (fun u2 h => ?_) _ rfl
            obtain ⟨am5, ea5, hQ5⟩ := h
            refine V.lvs (lv2 := [(0, .ref (am5 0)), (1, .int x1), (3, .int (nI a)), (4, .int (nI b))]) (by rw [ea5]) ?_
            have hs5 : cn (ntA (ntA (zs (zs (zs (ZI p a b) 3 a 5 (zz (ZI p a b) 3 a 5 + zz (ZI p a b) 3 b 5)) 3 b 7 2) 3 b 8 (a : Int)) b 109) a 103) 1 = cn (ntA (zs (zs (zs (ZI p a b) 3 a 5 (zz (ZI p a b) 3 a 5 + zz (ZI p a b) 3 b 5)) 3 b 7 2) 3 b 8 (a : Int)) b 109) 1 := (QT.nt (q := (ntA (zs (zs (zs (ZI p a b) 3 a 5 (zz (ZI p a b) 3 a 5 + zz (ZI p a b) 3 b 5)) 3 b 7 2) 3 b 8 (a : Int)) b 109)) (t := a) (x := 103)).1 1 (by omega)
            refine v_iinc C (nI (b + 1)) 3 [(4, .int (nI (b + 1))), (0, .ref (am5 0)), (1, .int x1), (3, .int (nI a))] rfl (by rw [← nI_1]; rfl) (by decide) rfl dX5_process_292 ?_
            refine v_goto C 203 (by decide) dX5_process_295 ?_
            refine V.sub [1, 2, 3, 0] rfl ?_
            refine V.lvs (lv2 := [(0, .ref (am 0)), (1, .int x1), (3, .int (nI a)), (4, .int (nI (b + 1)))]) (by rw [ea5, ea4]; rfl) ?_
            have e9 : ZI p a (b + 1) = ntA (ntA (zs (zs (zs (ZI p a b) 3 a 5 (zz (ZI p a b) 3 a 5 + zz (ZI p a b) 3 b 5)) 3 b 7 2) 3 b 8 (a : Int)) b 109) a 103 := by rw [ef, mrg_O hne]
            have e10 : lcn (ZI p a (b + 1)) + 1 = lcn (ZI p a b) := by rw [ef]; exact hml
            exact ih (b + 1) u2 am5 (k0 + 1 + 1) (n0 + 660 + 660) (by omega) (by omega) hlt (ea5.trans ea4) (by rw [e9]; exact hQ5) ⟨by omega, by omega⟩
set_option maxRecDepth 100000 in
set_option maxHeartbeats 4000000 in
theorem lp_X5_pr4 {l : Launch} {pP : Program} {eE : Env} {sS : State} {mM : MethodId} {aA : Array Value} {bB : List Frame} {tT : Method} {cC : Code} {G : GT} {A : Nat → Prop} {Q : State → Prop}  (S : HS) (x0 : Nat) (q : AS) (B : Nat) (hb : B ≤ 258) (g1 : BI (BG q (cn q 0))) (g2 : HB (BG q (cn q 0)) (B + 1)) (hSg : SGB (BG q (cn q 0))) (hTg : ITO (BG q (cn q 0))) (x1 : Int32)  (C : Cx pP l eE (rmD 22 36 21152) sS mM aA bB tT cC cX5_process 5 RX5 G A) (kk : ∀ (T : HS) (am : AM) (k0 n0 : Nat), am 0 = x0 → PZ T am q (MA q (cn (BG q (cn q 0)) 1)) → k0 ≤ 36 → n0 ≤ 21152 → V pP l eE (rmD 22 36 21152) sS mM aA bB tT cC 5 G A T k0 n0 Q 304 [(0, .ref x0), (1, .int x1)] []) : ∀ (N : Nat) (a : Nat) (T : HS) (am : AM) (k0 n0 : Nat), (hN9 : cn (BG q (cn q 0)) 1 + 1 ≤ a + N) → (hi : a ≤ cn (BG q (cn q 0)) 1) → (hx : am 0 = x0) → (hP : PZ T am q (MA q a)) → (hkn : k0 + 2 * lcn (MA q a) ≤ 36 ∧ n0 + 1320 * lcn (MA q a) ≤ 21152) → V pP l eE (rmD 22 36 21152) sS mM aA bB tT cC 5 G A T k0 n0 Q 190 [(0, .ref x0), (1, .int x1), (3, .int (nI a))] [] := by
  intro N
  induction N with
  | zero =>
    intro a T am k0 n0 hN9 hi hx hP hkn
    exact absurd hN9 (by omega)
  | succ N ih =>
    intro a T am k0 n0 hN9 hi hx hP hkn
    subst hx
    obtain ⟨hk0, hn0⟩ := hkn
    obtain ⟨n1, n2, n3⟩ := MA_I g1 g2 (by omega) a hi
    have e1 := n3.1 1 (by decide)
    have h60 := g1.b1
    have hKm := MA_K g1 g2 (by omega) hSg hTg a hi
    have hSm := hKm.1
    have hTm := hKm.2.1
    have hv44 : hI T 44 (am 0) = nI (cn (BG q (cn q 0)) 1) := by rw [hP.2.1.v44, e1]
    refine v_iload_n C 2 rfl rfl dX5_process_190 ?_
    refine v_aload_n C 0 rfl rfl dX5_process_191 ?_
    refine v_getI C (nI (cn (BG q (cn q 0)) 1)) fl_RX5_71 hP.1.k0 hv44 dX5_process_192 ?_
    refine v_icmp_ge C 304 (by decide) dX5_process_195 (fun c195 => ?_) (fun c195 => ?_)
    · obtain rfl : a = cn (BG q (cn q 0)) 1 := by have := nge c195 (by omega); omega
      exact V.sub [0, 1] rfl (kk T am k0 n0 rfl hP (by omega) (by omega))
    · have hlt : a < cn (BG q (cn q 0)) 1 := nlt c195 (by omega)
      refine v_iload_n C 2 rfl rfl dX5_process_198 ?_
      refine v_iconst C 1 (by decide) dX5_process_199 ?_
      refine v_iadd C dX5_process_200 ?_
      rw [nI_1 a]
      refine v_istore C [(4, .int (nI (a + 1))), (0, .ref (am 0)), (1, .int x1), (3, .int (nI a))] (by decide) rfl dX5_process_201 ?_
      have hz0 : ZI (MA q a) a (a + 1) = MA q a := ZI_0
      refine V.sub [1, 2, 3, 0] rfl (lp_X5_pr4i T (am 0) q (MA q a) (B + 1) n1 n2 (by omega) (by omega) hSm hTm a (by omega) x1 C (fun T2 am2 k2 n2 hx2 hP2 hk2 => ?_) (cn (MA q a) 1 + 1) (a + 1) T am k0 n0 (by omega) (Nat.le_refl _) (by omega) rfl (by rw [hz0]; exact hP) ⟨by rw [hz0]; exact hk0, by rw [hz0]; exact hn0⟩)
      rw [ZI_e] at hP2 hk2
      refine v_iinc C (nI (a + 1)) 2 [(3, .int (nI (a + 1))), (0, .ref (am 0)), (1, .int x1)] rfl (by rw [← nI_1]; rfl) (by decide) rfl dX5_process_298 ?_
      refine v_goto C 190 (by decide) dX5_process_301 ?_
      refine V.sub [1, 2, 0] rfl ?_
      exact ih (a + 1) T2 am2 k2 n2 (by omega) hlt hx2 hP2 hk2
set_option maxRecDepth 100000 in
set_option maxHeartbeats 4000000 in
theorem c_X5_process (l : Launch) (S : HS) (am : AM) (q : AS) (hB : BI q) (hA : NA S am (cn q 1)) (hV : NV S am q) (B : Nat) (hh : HB q B) (hb : B ≤ 258) (hSG : SGB q) (hIT : ITO q)  : cM l yX5_process cX5_process 5 (Option.some Jvm.ClassFile.FieldType.int) 22 [.ref (am 0)] S (pI fun r u => (¬ cn q 0 = 0 ∧ ∃ am2 : AM, am2 0 = am 0 ∧ NA u am2 (cn (prA q) 1) ∧ NV u am2 (prA q) ∧ hI u 61 (am 0) = 0 ∧ nI (TK q (cn q 0)) = r) ∨ (cn q 0 = 0 ∧ FrN S u am ∧ hI u 61 (am 0) = 1)) 36 21152 := by
  refine cM_intro (by decide +kernel) cd_X5_process (Nat.le_of_ble_eq_true rfl) ?_
  intro pP eE sS mM aA bB tT cC G A C hRT hin
  refine V.lvs (lv2 := [(0, .ref (am 0))]) rfl ?_
  refine v_aload_n C 0 rfl rfl dX5_process_0 ?_
  refine v_aload_n C 0 rfl rfl dX5_process_1 ?_
  refine v_getI C (nI (cn q 0)) fl_RX5_111 hA.k0 hV.v50 dX5_process_2 ?_
  refine v_if_ne C 12 (by decide) dX5_process_5 (fun c5 => ?_) (fun c5 => ?_)
  · refine v_iconst C 0 (by decide) dX5_process_12 ?_
    refine v_putI C fl_RX5_62 hA.k0 rfl rfl dX5_process_13 ?_
    refine v_aload_n C 0 rfl rfl dX5_process_16 ?_
    refine v_getI C 0 fl_RX5_62 hA.k0 hI_sI1 dX5_process_17 ?_
    refine v_if_le C 25 (by decide) dX5_process_20 (fun _ => ?_) (fun q => absurd (by decide) q)
    refine v_aload_n C 0 rfl rfl dX5_process_25 ?_
    refine v_callVv C (st := []) [] (c_X5_looks l (sI S 61 (am 0) 0) am q hB ((FrN.I (v := 0)).toA hA) ((FrN.I (v := 0)).toV hA hV)) ml_RX5_179 mi_yX5_looks hA.k0 (by decide) (by decide +kernel) rfl (Nat.le_of_ble_eq_true rfl) (Nat.le_of_ble_eq_true rfl) (Nat.le_of_ble_eq_true rfl) (Nat.le_of_ble_eq_true rfl) (Nat.le_of_ble_eq_true rfl) dX5_process_26 (fun u h => ?_) _ rfl
    obtain ⟨hF, hJ6, hb6⟩ := h
    have hF9 : FrN S u am := FrN.I.tr hF.N
    have h61 : hI u 61 (am 0) = 0 := (hF.2.2.2.1 61 (am 0)).trans hI_sI1
    have hA9 := hF9.toA hA
    have hV9 := hF9.toV hA hV
    have hP0 : PZ u am q (FS q 0) := ⟨hA9, hV9, h61, hb6⟩
    refine v_iconst C 0 (by decide) dX5_process_29 ?_
    refine v_istore_n C [(1, .int 0), (0, .ref (am 0))] (by decide) rfl rfl dX5_process_30 ?_
    refine v_aload_n C 1 rfl rfl dX5_process_31 ?_
    refine v_getI C (nI (cn q 1)) fl_RX5_71 hA9.k0 hV9.v44 dX5_process_32 ?_
    refine v_istore_n C [(2, .int (nI (cn q 1))), (1, .int 0), (0, .ref (am 0))] (by decide) rfl rfl dX5_process_35 ?_
    refine v_iconst C 0 (by decide) dX5_process_36 ?_
    refine v_istore_n C [(3, .int 0), (2, .int (nI (cn q 1))), (1, .int 0), (0, .ref (am 0))] (by decide) rfl rfl dX5_process_37 ?_
    refine V.sub [3, 2, 1, 0] rfl (lp_X5_pr1 u (am 0) q hB B hh hb hSG hIT C (fun T1 am1 k1 n1 hx1 hP1 hk1 hn1 => ?_) (cn q 0 + 1) 0 u am 0 0 (by omega) (by omega) rfl hP0 ⟨by omega, by omega⟩)
    refine v_iconst C 0 (by decide) dX5_process_76 ?_
    refine v_istore_n C [(3, .int 0), (0, .ref (am 0)), (1, .int (nI (TK q (cn q 0)))), (2, .int (nI (cn q 1)))] (by decide) rfl rfl dX5_process_77 ?_
    refine V.sub [1, 2, 3, 0] rfl (lp_X5_pr2 u (am 0) q hB B hh hb hSG hIT (nI (TK q (cn q 0))) C (fun T2 am2 k2 n2 hx2 hP2 hk2 hn2 => ?_) (cn q 1 + 1) 0 T1 am1 k1 n1 (by omega) (by omega) hx1 hP1 ⟨by omega, by omega⟩)
    refine v_iconst C 0 (by decide) dX5_process_157 ?_
    refine v_istore_n C [(3, .int 0), (0, .ref (am 0)), (1, .int (nI (TK q (cn q 0)))), (2, .int (nI (cn q 1)))] (by decide) rfl rfl dX5_process_158 ?_
    refine V.sub [1, 2, 0] rfl (lp_X5_pr3 u (am 0) q hB B hh hb hSG hIT (nI (TK q (cn q 0))) C (fun T3 am3 k3 n3 hx3 hP3 hk3 hn3 => ?_) (cn q 0 + 1) 0 T2 am2 k2 n2 (by omega) (by omega) hx2 hP2 ⟨by omega, by omega⟩)
    refine v_iconst C 0 (by decide) dX5_process_188 ?_
    refine v_istore_n C [(3, .int 0), (0, .ref (am 0)), (1, .int (nI (TK q (cn q 0))))] (by decide) rfl rfl dX5_process_189 ?_
    obtain ⟨g1, g2, g3, g4⟩ := BG_I hB hh (by omega) (cn q 0) (Nat.le_refl _)
    have kk9 := BG_K hB hh (by omega) hSG hIT (cn q 0) (Nat.le_refl _)
    have hl6 : lcn (BG q (cn q 0)) ≤ 6 := g1.bv
    refine V.sub [1, 2, 0] rfl (lp_X5_pr4 u (am 0) q B hb g1 g2 kk9.1 kk9.2.1 (nI (TK q (cn q 0))) C (fun T4 am4 k4 n4 hx4 hP4 hk4 hn4 => ?_) (cn (BG q (cn q 0)) 1 + 1) 0 T3 am3 k3 n3 (by omega) (by omega) hx3 hP3 ⟨show k3 + 2 * lcn (BG q (cn q 0)) ≤ 36 by omega, show n3 + 1320 * lcn (BG q (cn q 0)) ≤ 21152 by omega⟩)
    obtain ⟨m1, m2, m3⟩ := MA_I g1 g2 (by omega) (cn (BG q (cn q 0)) 1) (Nat.le_refl _)
    refine V.lvs (lv2 := [(0, .ref (am4 0)), (1, .int (nI (TK q (cn q 0))))]) (by rw [hx4]) ?_
    refine v_aload_n C 0 rfl rfl dX5_process_304 ?_
    refine v_dup C rfl dX5_process_305 ?_
    refine v_getI C (nI (cn (MA q (cn (BG q (cn q 0)) 1)) 2)) fl_RX5_196 (hP4).1.k0 (hP4).2.1.v57 dX5_process_306 ?_
    refine v_aload_n C 0 rfl rfl dX5_process_309 ?_
    refine v_getI C (nI (cn (MA q (cn (BG q (cn q 0)) 1)) 0)) fl_RX5_111 (hP4).1.k0 (hP4).2.1.v50 dX5_process_310 ?_
    refine v_iadd C dX5_process_313 ?_
    refine v_putI C fl_RX5_196 (hP4).1.k0 rfl rfl dX5_process_314 ?_
    refine v_aload_n C 0 rfl rfl dX5_process_317 ?_
    refine v_iconst C 0 (by decide) dX5_process_318 ?_
    refine v_putI C fl_RX5_111 (hP4).1.k0 rfl rfl dX5_process_319 ?_
    refine v_iload_n C 1 rfl rfl dX5_process_322 ?_
    exact v_iret C hRT (by show k4 ≤ 36; omega) (by show n4 ≤ 21152; omega) dX5_process_323 ⟨_, rfl, Or.inl ⟨fun z => c5 (by rw [z]; rfl), am4, hx4, (hP4.1.of rfl rfl rfl rfl : NA (sI (sI T4 57 (am4 0) ((nI (cn (MA q (cn (BG q (cn q 0)) 1)) 2)) + (nI (cn (MA q (cn (BG q (cn q 0)) 1)) 0)))) 50 (am4 0) 0) am4 (cn (MA q (cn (BG q (cn q 0)) 1)) 1)), NV.fin hP4.1 hP4.2.1, by rw [← hx4]; exact (hI_sI2 (fun z => absurd z.1 (by decide))).trans ((hI_sI2 (fun z => absurd z.1 (by decide))).trans hP4.2.2.1), rfl⟩⟩
  · refine v_iconst C 1 (by decide) dX5_process_8 ?_
    refine v_goto C 13 (by decide) dX5_process_9 ?_
    refine v_putI C fl_RX5_62 hA.k0 rfl rfl dX5_process_13 ?_
    refine v_aload_n C 0 rfl rfl dX5_process_16 ?_
    refine v_getI C 1 fl_RX5_62 hA.k0 hI_sI1 dX5_process_17 ?_
    refine v_if_le C 25 (by decide) dX5_process_20 (fun q => absurd q (by decide)) (fun _ => ?_)
    refine v_iconst C (-1) (by decide) dX5_process_23 ?_
    exact v_iret C hRT (Nat.le_of_ble_eq_true rfl) (Nat.le_of_ble_eq_true rfl) dX5_process_24 ⟨_, rfl, Or.inr ⟨nI_z c5 (by have := hB.b0; omega), FrN.I, hI_sI1⟩⟩
