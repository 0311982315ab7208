/-! the law's helpers: what the call did, and what it answered, as a number and in the row -/
def hP {α : Type} (f : α → HS → Prop) (px : String → HS → Prop) (L : List String) (S1 w : HS) (sv : HS → α → HS) : Int32 → HS → Prop := fun r w' => (r = 0 ∧ ∃ x u, f x u ∧ Cov S1 u w ∧ sv (fr S1 u w) x = w') ∨ (∃ (j : Nat) (E : String), L[j]? = some E ∧ r = nI (j + 1) ∧ ∃ u, px E u ∧ Cov S1 u w ∧ fr S1 u w = w')
theorem v_f2d {p : Program} {l : Launch} {e : Env} {R : Room} {s : State} {m : MethodId} {args : Array Value} {below : List Frame} {meth : Method} {c : Code} {cc : ByteArray} {nL : Nat} {own : String} {G : GT} {A : Nat → Prop} {S : HS} {k n : Nat} {Q : State → Prop} {pc : Nat} {lv : List (Nat × Value)} {st : List Value} (C : Cx p l e R s m args below meth c cc nL own G A) {x : UInt32} (hne : vf_n64 (FP.f2d x)) (hd : decode cc pc = .ok (.f2d, 1)) (kk : V p l e R s m args below meth c nL G A (S) (k) (n) Q (pc + 1) (lv) (.double (FP.f2d x) :: st)) : V p l e R s m args below meth c nL G A (S) (k) (n) Q (pc) (lv) (.float x :: st) := fun H locs ls hW hS hv => lv_f2d C.1 C.2.1 hd hne (kk H locs ls hW hS hv)
set_option maxRecDepth 100000 in
set_option maxHeartbeats 4000000 in
theorem c_L_addPair (l : Launch) (w S1 : HS) (i1 : Inn S1 w) (x0 ao : Nat) (a0 a1 a2 : Int32) (f : Int32 → HS → Prop) (px : String → HS → Prop) (hC : cX l yX4_addPair cX4_addPair 5 (Option.some Jvm.ClassFile.FieldType.int) 12 [.ref x0, .int a0, .int a1, .int a2] S1 (pI f) px 3 18) (hpx : ∀ E u, px E u → E = eIO ∨ E = eIA) (hx0 : hK w x0 = 5) (hao : hK w ao = 12) (hn : hN w ao = 1) (h1 : hK S1 ao = 0) : cH l yL_addPair cL_addPair 6 [(0, 12, 15, 13), (0, 12, 19, 15)] 13 [.ref x0, .int a0, .int a1, .int a2, .ref ao] w (pI (hP f px [eIO, eIA] S1 w (fun z x => tJ z ao 0 x.toInt64))) 3 18 := by
  refine cH_intro (by decide +kernel) (Nat.le_of_ble_eq_true rfl) ?_
  intro pP eE sS mM aA bB tT cC G A C hRT htb
  refine V.lvs (lv2 := [(0, .ref x0), (1, .int a0), (2, .int a1), (3, .int a2), (4, .ref ao)]) rfl ?_
  refine v_aload C 4 rfl dL_addPair_0 ?_
  refine v_iconst C 0 (by decide) dL_addPair_2 ?_
  refine v_aload_n C 0 rfl rfl dL_addPair_3 ?_
  refine v_iload_n C 1 rfl rfl dL_addPair_4 ?_
  refine v_iload_n C 2 rfl rfl dL_addPair_5 ?_
  refine v_iload_n C 3 rfl rfl dL_addPair_6 ?_
  refine v_xcallVi C (st := [.int 0, .ref ao]) [.int a0, .int a1, .int a2] (hC.frmI i1) ml_RL_7 mi_yX4_addPair hx0 (by decide) (by decide +kernel) rfl (Nat.le_of_ble_eq_true rfl) (Nat.le_of_ble_eq_true rfl) (Nat.le_of_ble_eq_true rfl) (Nat.le_of_ble_eq_true rfl) (Nat.le_of_ble_eq_true rfl) dL_addPair_7 (fun E w9 h => ?_) (fun x w9 h => ?_) _ rfl
  · obtain ⟨u, hx, hcv, rfl⟩ := h
    rcases hpx E u hx with rfl | rfl
    · refine v_catch (name := eIO) C htb [] ⟨0, 12, 15, 13⟩ [⟨0, 12, 19, 15⟩] rfl (fun z hz => by cases hz) rfl (by decide) clk_RL_13 cst_eIO (fun q9 => ?_)
      refine v_astore C [(5, .ref q9), (0, .ref x0), (1, .int a0), (2, .int a1), (3, .int a2), (4, .ref ao)] (by decide) rfl dL_addPair_15 ?_
      refine v_iconst C 1 (by decide) dL_addPair_17 ?_
      exact v_iret C hRT (Nat.le_of_ble_eq_true rfl) (Nat.le_of_ble_eq_true rfl) dL_addPair_18 ⟨_, rfl, Or.inr ⟨0, _, rfl, rfl, u, hx, hcv, rfl⟩⟩
    · refine v_catch (name := eIA) C htb [⟨0, 12, 15, 13⟩] ⟨0, 12, 19, 15⟩ [] rfl (fun z hz => by rcases List.mem_cons.mp hz with rfl | hz; exact ⟨by decide, _, clk_RL_13, List.mem_of_getElem? (i := 0) rfl⟩; cases hz) rfl (by decide) clk_RL_15 cst_eIA (fun q9 => ?_)
      refine v_astore C [(5, .ref q9), (0, .ref x0), (1, .int a0), (2, .int a1), (3, .int a2), (4, .ref ao)] (by decide) rfl dL_addPair_19 ?_
      refine v_iconst C 2 (by decide) dL_addPair_21 ?_
      exact v_iret C hRT (Nat.le_of_ble_eq_true rfl) (Nat.le_of_ble_eq_true rfl) dL_addPair_22 ⟨_, rfl, Or.inr ⟨1, _, rfl, rfl, u, hx, hcv, rfl⟩⟩
  · obtain ⟨u, hf, hcv, rfl⟩ := h
    have hz9 := fr_out (w := w) h1 (hcv ao (by rw [hao]; decide) h1)
    have hao2 : hK (fr S1 u w) ao = 12 := hz9.1.trans hao
    have hin2 : vp_in 0 (hN (fr S1 u w) ao) := by rw [hz9.2.1, hn]; unfold vp_in; decide
    refine v_i2l C dL_addPair_10 ?_
    refine v_lastj C 0 rfl hao2 hin2 dL_addPair_11 ?_
    refine v_goto C 23 (by decide) dL_addPair_12 ?_
    refine v_iconst C 0 (by decide) dL_addPair_23 ?_
    exact v_iret C hRT (Nat.le_of_ble_eq_true rfl) (Nat.le_of_ble_eq_true rfl) dL_addPair_24 ⟨_, rfl, Or.inl ⟨rfl, x, u, hf, hcv, rfl⟩⟩
set_option maxRecDepth 100000 in
set_option maxHeartbeats 4000000 in
theorem c_L_forgetPairs (l : Launch) (w S1 : HS) (i1 : Inn S1 w) (x0 ao : Nat) (a0 : Int32) (f : Int32 → HS → Prop) (px : String → HS → Prop) (hC : cX l yX4_forgetPairs cX4_forgetPairs 4 (Option.some Jvm.ClassFile.FieldType.int) 8 [.ref x0, .int a0] S1 (pI f) px 1 6) (hpx : ∀ E u, px E u → E = eIO) (hx0 : hK w x0 = 5) (hao : hK w ao = 12) (hn : hN w ao = 1) (h1 : hK S1 ao = 0) : cH l yL_forgetPairs cL_forgetPairs 4 [(0, 9, 12, 13)] 9 [.ref x0, .int a0, .ref ao] w (pI (hP f px [eIO] S1 w (fun z x => tJ z ao 0 x.toInt64))) 1 6 := by
  refine cH_intro (by decide +kernel) (Nat.le_of_ble_eq_true rfl) ?_
  intro pP eE sS mM aA bB tT cC G A C hRT htb
  refine V.lvs (lv2 := [(0, .ref x0), (1, .int a0), (2, .ref ao)]) rfl ?_
  refine v_aload_n C 2 rfl rfl dL_forgetPairs_0 ?_
  refine v_iconst C 0 (by decide) dL_forgetPairs_1 ?_
  refine v_aload_n C 0 rfl rfl dL_forgetPairs_2 ?_
  refine v_iload_n C 1 rfl rfl dL_forgetPairs_3 ?_
  refine v_xcallVi C (st := [.int 0, .ref ao]) [.int a0] (hC.frmI i1) ml_RL_17 mi_yX4_forgetPairs hx0 (by decide) (by decide +kernel) rfl (Nat.le_of_ble_eq_true rfl) (Nat.le_of_ble_eq_true rfl) (Nat.le_of_ble_eq_true rfl) (Nat.le_of_ble_eq_true rfl) (Nat.le_of_ble_eq_true rfl) dL_forgetPairs_4 (fun E w9 h => ?_) (fun x w9 h => ?_) _ rfl
  · obtain ⟨u, hx, hcv, rfl⟩ := h
    rcases hpx E u hx with rfl
    · refine v_catch (name := eIO) C htb [] ⟨0, 9, 12, 13⟩ [] rfl (fun z hz => by cases hz) rfl (by decide) clk_RL_13 cst_eIO (fun q9 => ?_)
      refine v_astore_n C [(3, .ref q9), (0, .ref x0), (1, .int a0), (2, .ref ao)] (by decide) rfl rfl dL_forgetPairs_12 ?_
      refine v_iconst C 1 (by decide) dL_forgetPairs_13 ?_
      exact v_iret C hRT (Nat.le_of_ble_eq_true rfl) (Nat.le_of_ble_eq_true rfl) dL_forgetPairs_14 ⟨_, rfl, Or.inr ⟨0, _, rfl, rfl, u, hx, hcv, rfl⟩⟩
  · obtain ⟨u, hf, hcv, rfl⟩ := h
    have hz9 := fr_out (w := w) h1 (hcv ao (by rw [hao]; decide) h1)
    have hao2 : hK (fr S1 u w) ao = 12 := hz9.1.trans hao
    have hin2 : vp_in 0 (hN (fr S1 u w) ao) := by rw [hz9.2.1, hn]; unfold vp_in; decide
    refine v_i2l C dL_forgetPairs_7 ?_
    refine v_lastj C 0 rfl hao2 hin2 dL_forgetPairs_8 ?_
    refine v_goto C 15 (by decide) dL_forgetPairs_9 ?_
    refine v_iconst C 0 (by decide) dL_forgetPairs_15 ?_
    exact v_iret C hRT (Nat.le_of_ble_eq_true rfl) (Nat.le_of_ble_eq_true rfl) dL_forgetPairs_16 ⟨_, rfl, Or.inl ⟨rfl, x, u, hf, hcv, rfl⟩⟩
set_option maxRecDepth 100000 in
set_option maxHeartbeats 4000000 in
theorem c_L_correctedTime (l : Launch) (w S1 : HS) (i1 : Inn S1 w) (x0 ao : Nat) (a0 a1 : Int32) (f : Int32 → HS → Prop) (px : String → HS → Prop) (hC : cX l yX4_correctedTime cX4_correctedTime 4 (Option.some Jvm.ClassFile.FieldType.int) 12 [.ref x0, .int a0, .int a1] S1 (pI f) px 2 12) (hpx : ∀ E u, px E u → E = eIO ∨ E = eIA) (hx0 : hK w x0 = 5) (hao : hK w ao = 12) (hn : hN w ao = 1) (h1 : hK S1 ao = 0) : cH l yL_correctedTime cL_correctedTime 5 [(0, 10, 13, 13), (0, 10, 17, 15)] 13 [.ref x0, .int a0, .int a1, .ref ao] w (pI (hP f px [eIO, eIA] S1 w (fun z x => tJ z ao 0 x.toInt64))) 2 12 := by
  refine cH_intro (by decide +kernel) (Nat.le_of_ble_eq_true rfl) ?_
  intro pP eE sS mM aA bB tT cC G A C hRT htb
  refine V.lvs (lv2 := [(0, .ref x0), (1, .int a0), (2, .int a1), (3, .ref ao)]) rfl ?_
  refine v_aload_n C 3 rfl rfl dL_correctedTime_0 ?_
  refine v_iconst C 0 (by decide) dL_correctedTime_1 ?_
  refine v_aload_n C 0 rfl rfl dL_correctedTime_2 ?_
  refine v_iload_n C 1 rfl rfl dL_correctedTime_3 ?_
  refine v_iload_n C 2 rfl rfl dL_correctedTime_4 ?_
  refine v_xcallVi C (st := [.int 0, .ref ao]) [.int a0, .int a1] (hC.frmI i1) ml_RL_21 mi_yX4_correctedTime hx0 (by decide) (by decide +kernel) rfl (Nat.le_of_ble_eq_true rfl) (Nat.le_of_ble_eq_true rfl) (Nat.le_of_ble_eq_true rfl) (Nat.le_of_ble_eq_true rfl) (Nat.le_of_ble_eq_true rfl) dL_correctedTime_5 (fun E w9 h => ?_) (fun x w9 h => ?_) _ rfl
  · obtain ⟨u, hx, hcv, rfl⟩ := h
    rcases hpx E u hx with rfl | rfl
    · refine v_catch (name := eIO) C htb [] ⟨0, 10, 13, 13⟩ [⟨0, 10, 17, 15⟩] rfl (fun z hz => by cases hz) rfl (by decide) clk_RL_13 cst_eIO (fun q9 => ?_)
      refine v_astore C [(4, .ref q9), (0, .ref x0), (1, .int a0), (2, .int a1), (3, .ref ao)] (by decide) rfl dL_correctedTime_13 ?_
      refine v_iconst C 1 (by decide) dL_correctedTime_15 ?_
      exact v_iret C hRT (Nat.le_of_ble_eq_true rfl) (Nat.le_of_ble_eq_true rfl) dL_correctedTime_16 ⟨_, rfl, Or.inr ⟨0, _, rfl, rfl, u, hx, hcv, rfl⟩⟩
    · refine v_catch (name := eIA) C htb [⟨0, 10, 13, 13⟩] ⟨0, 10, 17, 15⟩ [] rfl (fun z hz => by rcases List.mem_cons.mp hz with rfl | hz; exact ⟨by decide, _, clk_RL_13, List.mem_of_getElem? (i := 0) rfl⟩; cases hz) rfl (by decide) clk_RL_15 cst_eIA (fun q9 => ?_)
      refine v_astore C [(4, .ref q9), (0, .ref x0), (1, .int a0), (2, .int a1), (3, .ref ao)] (by decide) rfl dL_correctedTime_17 ?_
      refine v_iconst C 2 (by decide) dL_correctedTime_19 ?_
      exact v_iret C hRT (Nat.le_of_ble_eq_true rfl) (Nat.le_of_ble_eq_true rfl) dL_correctedTime_20 ⟨_, rfl, Or.inr ⟨1, _, rfl, rfl, u, hx, hcv, rfl⟩⟩
  · obtain ⟨u, hf, hcv, rfl⟩ := h
    have hz9 := fr_out (w := w) h1 (hcv ao (by rw [hao]; decide) h1)
    have hao2 : hK (fr S1 u w) ao = 12 := hz9.1.trans hao
    have hin2 : vp_in 0 (hN (fr S1 u w) ao) := by rw [hz9.2.1, hn]; unfold vp_in; decide
    refine v_i2l C dL_correctedTime_8 ?_
    refine v_lastj C 0 rfl hao2 hin2 dL_correctedTime_9 ?_
    refine v_goto C 21 (by decide) dL_correctedTime_10 ?_
    refine v_iconst C 0 (by decide) dL_correctedTime_21 ?_
    exact v_iret C hRT (Nat.le_of_ble_eq_true rfl) (Nat.le_of_ble_eq_true rfl) dL_correctedTime_22 ⟨_, rfl, Or.inl ⟨rfl, x, u, hf, hcv, rfl⟩⟩
set_option maxRecDepth 100000 in
set_option maxHeartbeats 4000000 in
theorem c_L_setGate (l : Launch) (w S1 : HS) (i1 : Inn S1 w) (x0 ao : Nat) (a0 : Int32) (f : Int32 → HS → Prop) (px : String → HS → Prop) (hC : cX l yX4_setGate cX4_setGate 3 (Option.some Jvm.ClassFile.FieldType.int) 10 [.ref x0, .int a0] S1 (pI f) px 1 6) (hpx : ∀ E u, px E u → E = eIA) (hx0 : hK w x0 = 5) (hao : hK w ao = 12) (hn : hN w ao = 1) (h1 : hK S1 ao = 0) : cH l yL_setGate cL_setGate 4 [(0, 9, 12, 15)] 11 [.ref x0, .int a0, .ref ao] w (pI (hP f px [eIA] S1 w (fun z x => tJ z ao 0 x.toInt64))) 1 6 := by
  refine cH_intro (by decide +kernel) (Nat.le_of_ble_eq_true rfl) ?_
  intro pP eE sS mM aA bB tT cC G A C hRT htb
  refine V.lvs (lv2 := [(0, .ref x0), (1, .int a0), (2, .ref ao)]) rfl ?_
  refine v_aload_n C 2 rfl rfl dL_setGate_0 ?_
  refine v_iconst C 0 (by decide) dL_setGate_1 ?_
  refine v_aload_n C 0 rfl rfl dL_setGate_2 ?_
  refine v_iload_n C 1 rfl rfl dL_setGate_3 ?_
  refine v_xcallVi C (st := [.int 0, .ref ao]) [.int a0] (hC.frmI i1) ml_RL_25 mi_yX4_setGate hx0 (by decide) (by decide +kernel) rfl (Nat.le_of_ble_eq_true rfl) (Nat.le_of_ble_eq_true rfl) (Nat.le_of_ble_eq_true rfl) (Nat.le_of_ble_eq_true rfl) (Nat.le_of_ble_eq_true rfl) dL_setGate_4 (fun E w9 h => ?_) (fun x w9 h => ?_) _ rfl
  · obtain ⟨u, hx, hcv, rfl⟩ := h
    rcases hpx E u hx with rfl
    · refine v_catch (name := eIA) C htb [] ⟨0, 9, 12, 15⟩ [] rfl (fun z hz => by cases hz) rfl (by decide) clk_RL_15 cst_eIA (fun q9 => ?_)
      refine v_astore_n C [(3, .ref q9), (0, .ref x0), (1, .int a0), (2, .ref ao)] (by decide) rfl rfl dL_setGate_12 ?_
      refine v_iconst C 1 (by decide) dL_setGate_13 ?_
      exact v_iret C hRT (Nat.le_of_ble_eq_true rfl) (Nat.le_of_ble_eq_true rfl) dL_setGate_14 ⟨_, rfl, Or.inr ⟨0, _, rfl, rfl, u, hx, hcv, rfl⟩⟩
  · obtain ⟨u, hf, hcv, rfl⟩ := h
    have hz9 := fr_out (w := w) h1 (hcv ao (by rw [hao]; decide) h1)
    have hao2 : hK (fr S1 u w) ao = 12 := hz9.1.trans hao
    have hin2 : vp_in 0 (hN (fr S1 u w) ao) := by rw [hz9.2.1, hn]; unfold vp_in; decide
    refine v_i2l C dL_setGate_7 ?_
    refine v_lastj C 0 rfl hao2 hin2 dL_setGate_8 ?_
    refine v_goto C 15 (by decide) dL_setGate_9 ?_
    refine v_iconst C 0 (by decide) dL_setGate_15 ?_
    exact v_iret C hRT (Nat.le_of_ble_eq_true rfl) (Nat.le_of_ble_eq_true rfl) dL_setGate_16 ⟨_, rfl, Or.inl ⟨rfl, x, u, hf, hcv, rfl⟩⟩
set_option maxRecDepth 100000 in
set_option maxHeartbeats 4000000 in
theorem c_L_setFilter (l : Launch) (w S1 : HS) (i1 : Inn S1 w) (x0 ao : Nat) (a0 a1 : Int32) (f : Int32 → HS → Prop) (px : String → HS → Prop) (hC : cX l yX4_setFilter cX4_setFilter 4 (Option.some Jvm.ClassFile.FieldType.int) 10 [.ref x0, .int a0, .int a1] S1 (pI f) px 1 6) (hpx : ∀ E u, px E u → E = eIA) (hx0 : hK w x0 = 5) (hao : hK w ao = 12) (hn : hN w ao = 1) (h1 : hK S1 ao = 0) : cH l yL_setFilter cL_setFilter 5 [(0, 10, 13, 15)] 11 [.ref x0, .int a0, .int a1, .ref ao] w (pI (hP f px [eIA] S1 w (fun z x => tJ z ao 0 x.toInt64))) 1 6 := by
  refine cH_intro (by decide +kernel) (Nat.le_of_ble_eq_true rfl) ?_
  intro pP eE sS mM aA bB tT cC G A C hRT htb
  refine V.lvs (lv2 := [(0, .ref x0), (1, .int a0), (2, .int a1), (3, .ref ao)]) rfl ?_
  refine v_aload_n C 3 rfl rfl dL_setFilter_0 ?_
  refine v_iconst C 0 (by decide) dL_setFilter_1 ?_
  refine v_aload_n C 0 rfl rfl dL_setFilter_2 ?_
  refine v_iload_n C 1 rfl rfl dL_setFilter_3 ?_
  refine v_iload_n C 2 rfl rfl dL_setFilter_4 ?_
  refine v_xcallVi C (st := [.int 0, .ref ao]) [.int a0, .int a1] (hC.frmI i1) ml_RL_28 mi_yX4_setFilter hx0 (by decide) (by decide +kernel) rfl (Nat.le_of_ble_eq_true rfl) (Nat.le_of_ble_eq_true rfl) (Nat.le_of_ble_eq_true rfl) (Nat.le_of_ble_eq_true rfl) (Nat.le_of_ble_eq_true rfl) dL_setFilter_5 (fun E w9 h => ?_) (fun x w9 h => ?_) _ rfl
  · obtain ⟨u, hx, hcv, rfl⟩ := h
    rcases hpx E u hx with rfl
    · refine v_catch (name := eIA) C htb [] ⟨0, 10, 13, 15⟩ [] rfl (fun z hz => by cases hz) rfl (by decide) clk_RL_15 cst_eIA (fun q9 => ?_)
      refine v_astore C [(4, .ref q9), (0, .ref x0), (1, .int a0), (2, .int a1), (3, .ref ao)] (by decide) rfl dL_setFilter_13 ?_
      refine v_iconst C 1 (by decide) dL_setFilter_15 ?_
      exact v_iret C hRT (Nat.le_of_ble_eq_true rfl) (Nat.le_of_ble_eq_true rfl) dL_setFilter_16 ⟨_, rfl, Or.inr ⟨0, _, rfl, rfl, u, hx, hcv, rfl⟩⟩
  · obtain ⟨u, hf, hcv, rfl⟩ := h
    have hz9 := fr_out (w := w) h1 (hcv ao (by rw [hao]; decide) h1)
    have hao2 : hK (fr S1 u w) ao = 12 := hz9.1.trans hao
    have hin2 : vp_in 0 (hN (fr S1 u w) ao) := by rw [hz9.2.1, hn]; unfold vp_in; decide
    refine v_i2l C dL_setFilter_8 ?_
    refine v_lastj C 0 rfl hao2 hin2 dL_setFilter_9 ?_
    refine v_goto C 17 (by decide) dL_setFilter_10 ?_
    refine v_iconst C 0 (by decide) dL_setFilter_17 ?_
    exact v_iret C hRT (Nat.le_of_ble_eq_true rfl) (Nat.le_of_ble_eq_true rfl) dL_setFilter_18 ⟨_, rfl, Or.inl ⟨rfl, x, u, hf, hcv, rfl⟩⟩
set_option maxRecDepth 100000 in
set_option maxHeartbeats 4000000 in
theorem c_L_setLimit (l : Launch) (w S1 : HS) (i1 : Inn S1 w) (x0 ao : Nat) (a0 : Int32) (f : Int32 → HS → Prop) (px : String → HS → Prop) (hC : cX l yX4_setLimit cX4_setLimit 3 (Option.some Jvm.ClassFile.FieldType.int) 10 [.ref x0, .int a0] S1 (pI f) px 1 6) (hpx : ∀ E u, px E u → E = eIA) (hx0 : hK w x0 = 5) (hao : hK w ao = 12) (hn : hN w ao = 1) (h1 : hK S1 ao = 0) : cH l yL_setLimit cL_setLimit 4 [(0, 9, 12, 15)] 11 [.ref x0, .int a0, .ref ao] w (pI (hP f px [eIA] S1 w (fun z x => tJ z ao 0 x.toInt64))) 1 6 := by
  refine cH_intro (by decide +kernel) (Nat.le_of_ble_eq_true rfl) ?_
  intro pP eE sS mM aA bB tT cC G A C hRT htb
  refine V.lvs (lv2 := [(0, .ref x0), (1, .int a0), (2, .ref ao)]) rfl ?_
  refine v_aload_n C 2 rfl rfl dL_setLimit_0 ?_
  refine v_iconst C 0 (by decide) dL_setLimit_1 ?_
  refine v_aload_n C 0 rfl rfl dL_setLimit_2 ?_
  refine v_iload_n C 1 rfl rfl dL_setLimit_3 ?_
  refine v_xcallVi C (st := [.int 0, .ref ao]) [.int a0] (hC.frmI i1) ml_RL_31 mi_yX4_setLimit hx0 (by decide) (by decide +kernel) rfl (Nat.le_of_ble_eq_true rfl) (Nat.le_of_ble_eq_true rfl) (Nat.le_of_ble_eq_true rfl) (Nat.le_of_ble_eq_true rfl) (Nat.le_of_ble_eq_true rfl) dL_setLimit_4 (fun E w9 h => ?_) (fun x w9 h => ?_) _ rfl
  · obtain ⟨u, hx, hcv, rfl⟩ := h
    rcases hpx E u hx with rfl
    · refine v_catch (name := eIA) C htb [] ⟨0, 9, 12, 15⟩ [] rfl (fun z hz => by cases hz) rfl (by decide) clk_RL_15 cst_eIA (fun q9 => ?_)
      refine v_astore_n C [(3, .ref q9), (0, .ref x0), (1, .int a0), (2, .ref ao)] (by decide) rfl rfl dL_setLimit_12 ?_
      refine v_iconst C 1 (by decide) dL_setLimit_13 ?_
      exact v_iret C hRT (Nat.le_of_ble_eq_true rfl) (Nat.le_of_ble_eq_true rfl) dL_setLimit_14 ⟨_, rfl, Or.inr ⟨0, _, rfl, rfl, u, hx, hcv, rfl⟩⟩
  · obtain ⟨u, hf, hcv, rfl⟩ := h
    have hz9 := fr_out (w := w) h1 (hcv ao (by rw [hao]; decide) h1)
    have hao2 : hK (fr S1 u w) ao = 12 := hz9.1.trans hao
    have hin2 : vp_in 0 (hN (fr S1 u w) ao) := by rw [hz9.2.1, hn]; unfold vp_in; decide
    refine v_i2l C dL_setLimit_7 ?_
    refine v_lastj C 0 rfl hao2 hin2 dL_setLimit_8 ?_
    refine v_goto C 15 (by decide) dL_setLimit_9 ?_
    refine v_iconst C 0 (by decide) dL_setLimit_15 ?_
    exact v_iret C hRT (Nat.le_of_ble_eq_true rfl) (Nat.le_of_ble_eq_true rfl) dL_setLimit_16 ⟨_, rfl, Or.inl ⟨rfl, x, u, hf, hcv, rfl⟩⟩
set_option maxRecDepth 100000 in
set_option maxHeartbeats 4000000 in
theorem c_L_setNearness (l : Launch) (w S1 : HS) (i1 : Inn S1 w) (x0 ao : Nat) (a0 : Int32) (f : Int32 → HS → Prop) (px : String → HS → Prop) (hC : cX l yX4_setNearness cX4_setNearness 3 (Option.some Jvm.ClassFile.FieldType.int) 10 [.ref x0, .int a0] S1 (pI f) px 1 6) (hpx : ∀ E u, px E u → E = eIA) (hx0 : hK w x0 = 5) (hao : hK w ao = 12) (hn : hN w ao = 1) (h1 : hK S1 ao = 0) : cH l yL_setNearness cL_setNearness 4 [(0, 9, 12, 15)] 11 [.ref x0, .int a0, .ref ao] w (pI (hP f px [eIA] S1 w (fun z x => tJ z ao 0 x.toInt64))) 1 6 := by
  refine cH_intro (by decide +kernel) (Nat.le_of_ble_eq_true rfl) ?_
  intro pP eE sS mM aA bB tT cC G A C hRT htb
  refine V.lvs (lv2 := [(0, .ref x0), (1, .int a0), (2, .ref ao)]) rfl ?_
  refine v_aload_n C 2 rfl rfl dL_setNearness_0 ?_
  refine v_iconst C 0 (by decide) dL_setNearness_1 ?_
  refine v_aload_n C 0 rfl rfl dL_setNearness_2 ?_
  refine v_iload_n C 1 rfl rfl dL_setNearness_3 ?_
  refine v_xcallVi C (st := [.int 0, .ref ao]) [.int a0] (hC.frmI i1) ml_RL_34 mi_yX4_setNearness hx0 (by decide) (by decide +kernel) rfl (Nat.le_of_ble_eq_true rfl) (Nat.le_of_ble_eq_true rfl) (Nat.le_of_ble_eq_true rfl) (Nat.le_of_ble_eq_true rfl) (Nat.le_of_ble_eq_true rfl) dL_setNearness_4 (fun E w9 h => ?_) (fun x w9 h => ?_) _ rfl
  · obtain ⟨u, hx, hcv, rfl⟩ := h
    rcases hpx E u hx with rfl
    · refine v_catch (name := eIA) C htb [] ⟨0, 9, 12, 15⟩ [] rfl (fun z hz => by cases hz) rfl (by decide) clk_RL_15 cst_eIA (fun q9 => ?_)
      refine v_astore_n C [(3, .ref q9), (0, .ref x0), (1, .int a0), (2, .ref ao)] (by decide) rfl rfl dL_setNearness_12 ?_
      refine v_iconst C 1 (by decide) dL_setNearness_13 ?_
      exact v_iret C hRT (Nat.le_of_ble_eq_true rfl) (Nat.le_of_ble_eq_true rfl) dL_setNearness_14 ⟨_, rfl, Or.inr ⟨0, _, rfl, rfl, u, hx, hcv, rfl⟩⟩
  · obtain ⟨u, hf, hcv, rfl⟩ := h
    have hz9 := fr_out (w := w) h1 (hcv ao (by rw [hao]; decide) h1)
    have hao2 : hK (fr S1 u w) ao = 12 := hz9.1.trans hao
    have hin2 : vp_in 0 (hN (fr S1 u w) ao) := by rw [hz9.2.1, hn]; unfold vp_in; decide
    refine v_i2l C dL_setNearness_7 ?_
    refine v_lastj C 0 rfl hao2 hin2 dL_setNearness_8 ?_
    refine v_goto C 15 (by decide) dL_setNearness_9 ?_
    refine v_iconst C 0 (by decide) dL_setNearness_15 ?_
    exact v_iret C hRT (Nat.le_of_ble_eq_true rfl) (Nat.le_of_ble_eq_true rfl) dL_setNearness_16 ⟨_, rfl, Or.inl ⟨rfl, x, u, hf, hcv, rfl⟩⟩
set_option maxRecDepth 100000 in
set_option maxHeartbeats 4000000 in
theorem c_L_report (l : Launch) (w S1 : HS) (i1 : Inn S1 w) (x0 ao : Nat) (a0 a1 a2 a3 : Int32) (f : Int32 → HS → Prop) (px : String → HS → Prop) (hC : cX l yX4_report cX4_report 8 (Option.some Jvm.ClassFile.FieldType.int) 12 [.ref x0, .int a0, .int a1, .int a2, .int a3] S1 (pI f) px 3 18) (hpx : ∀ E u, px E u → E = eIO ∨ E = eIA ∨ E = eIS) (hx0 : hK w x0 = 5) (hao : hK w ao = 12) (hn : hN w ao = 1) (h1 : hK S1 ao = 0) : cH l yL_report cL_report 7 [(0, 14, 17, 13), (0, 14, 21, 15), (0, 14, 25, 41)] 13 [.ref x0, .int a0, .int a1, .int a2, .int a3, .ref ao] w (pI (hP f px [eIO, eIA, eIS] S1 w (fun z x => tJ z ao 0 x.toInt64))) 3 18 := by
  refine cH_intro (by decide +kernel) (Nat.le_of_ble_eq_true rfl) ?_
  intro pP eE sS mM aA bB tT cC G A C hRT htb
  refine V.lvs (lv2 := [(0, .ref x0), (1, .int a0), (2, .int a1), (3, .int a2), (4, .int a3), (5, .ref ao)]) rfl ?_
  refine v_aload C 5 rfl dL_report_0 ?_
  refine v_iconst C 0 (by decide) dL_report_2 ?_
  refine v_aload_n C 0 rfl rfl dL_report_3 ?_
  refine v_iload_n C 1 rfl rfl dL_report_4 ?_
  refine v_iload_n C 2 rfl rfl dL_report_5 ?_
  refine v_iload_n C 3 rfl rfl dL_report_6 ?_
  refine v_iload C 4 rfl dL_report_7 ?_
  refine v_xcallVi C (st := [.int 0, .ref ao]) [.int a0, .int a1, .int a2, .int a3] (hC.frmI i1) ml_RL_37 mi_yX4_report hx0 (by decide) (by decide +kernel) rfl (Nat.le_of_ble_eq_true rfl) (Nat.le_of_ble_eq_true rfl) (Nat.le_of_ble_eq_true rfl) (Nat.le_of_ble_eq_true rfl) (Nat.le_of_ble_eq_true rfl) dL_report_9 (fun E w9 h => ?_) (fun x w9 h => ?_) _ rfl
  · obtain ⟨u, hx, hcv, rfl⟩ := h
    rcases hpx E u hx with rfl | rfl | rfl
    · refine v_catch (name := eIO) C htb [] ⟨0, 14, 17, 13⟩ [⟨0, 14, 21, 15⟩, ⟨0, 14, 25, 41⟩] rfl (fun z hz => by cases hz) rfl (by decide) clk_RL_13 cst_eIO (fun q9 => ?_)
      refine v_astore C [(6, .ref q9), (0, .ref x0), (1, .int a0), (2, .int a1), (3, .int a2), (4, .int a3), (5, .ref ao)] (by decide) rfl dL_report_17 ?_
      refine v_iconst C 1 (by decide) dL_report_19 ?_
      exact v_iret C hRT (Nat.le_of_ble_eq_true rfl) (Nat.le_of_ble_eq_true rfl) dL_report_20 ⟨_, rfl, Or.inr ⟨0, _, rfl, rfl, u, hx, hcv, rfl⟩⟩
    · refine v_catch (name := eIA) C htb [⟨0, 14, 17, 13⟩] ⟨0, 14, 21, 15⟩ [⟨0, 14, 25, 41⟩] rfl (fun z hz => by rcases List.mem_cons.mp hz with rfl | hz; exact ⟨by decide, _, clk_RL_13, List.mem_of_getElem? (i := 0) rfl⟩; cases hz) rfl (by decide) clk_RL_15 cst_eIA (fun q9 => ?_)
      refine v_astore C [(6, .ref q9), (0, .ref x0), (1, .int a0), (2, .int a1), (3, .int a2), (4, .int a3), (5, .ref ao)] (by decide) rfl dL_report_21 ?_
      refine v_iconst C 2 (by decide) dL_report_23 ?_
      exact v_iret C hRT (Nat.le_of_ble_eq_true rfl) (Nat.le_of_ble_eq_true rfl) dL_report_24 ⟨_, rfl, Or.inr ⟨1, _, rfl, rfl, u, hx, hcv, rfl⟩⟩
    · refine v_catch (name := eIS) C htb [⟨0, 14, 17, 13⟩, ⟨0, 14, 21, 15⟩] ⟨0, 14, 25, 41⟩ [] rfl (fun z hz => by rcases List.mem_cons.mp hz with rfl | hz; exact ⟨by decide, _, clk_RL_13, List.mem_of_getElem? (i := 1) rfl⟩; rcases List.mem_cons.mp hz with rfl | hz; exact ⟨by decide, _, clk_RL_15, List.mem_of_getElem? (i := 2) rfl⟩; cases hz) rfl (by decide) clk_RL_41 cst_eIS (fun q9 => ?_)
      refine v_astore C [(6, .ref q9), (0, .ref x0), (1, .int a0), (2, .int a1), (3, .int a2), (4, .int a3), (5, .ref ao)] (by decide) rfl dL_report_25 ?_
      refine v_iconst C 3 (by decide) dL_report_27 ?_
      exact v_iret C hRT (Nat.le_of_ble_eq_true rfl) (Nat.le_of_ble_eq_true rfl) dL_report_28 ⟨_, rfl, Or.inr ⟨2, _, rfl, rfl, u, hx, hcv, rfl⟩⟩
  · obtain ⟨u, hf, hcv, rfl⟩ := h
    have hz9 := fr_out (w := w) h1 (hcv ao (by rw [hao]; decide) h1)
    have hao2 : hK (fr S1 u w) ao = 12 := hz9.1.trans hao
    have hin2 : vp_in 0 (hN (fr S1 u w) ao) := by rw [hz9.2.1, hn]; unfold vp_in; decide
    refine v_i2l C dL_report_12 ?_
    refine v_lastj C 0 rfl hao2 hin2 dL_report_13 ?_
    refine v_goto C 29 (by decide) dL_report_14 ?_
    refine v_iconst C 0 (by decide) dL_report_29 ?_
    exact v_iret C hRT (Nat.le_of_ble_eq_true rfl) (Nat.le_of_ble_eq_true rfl) dL_report_30 ⟨_, rfl, Or.inl ⟨rfl, x, u, hf, hcv, rfl⟩⟩
set_option maxRecDepth 100000 in
set_option maxHeartbeats 4000000 in
theorem c_L_process (l : Launch) (w S1 : HS) (i1 : Inn S1 w) (x0 ao : Nat) (f : Int32 → HS → Prop) (px : String → HS → Prop) (hC : cX l yX4_process cX4_process 2 (Option.some Jvm.ClassFile.FieldType.int) 15 [.ref x0] S1 (pI f) px 8 2096) (hpx : ∀ E u, px E u → E = eIS) (hx0 : hK w x0 = 5) (hao : hK w ao = 12) (hn : hN w ao = 1) (h1 : hK S1 ao = 0) : cH l yL_process cL_process 3 [(0, 8, 11, 41)] 16 [.ref x0, .ref ao] w (pI (hP f px [eIS] S1 w (fun z x => tJ z ao 0 x.toInt64))) 8 2096 := by
  refine cH_intro (by decide +kernel) (Nat.le_of_ble_eq_true rfl) ?_
  intro pP eE sS mM aA bB tT cC G A C hRT htb
  refine V.lvs (lv2 := [(0, .ref x0), (1, .ref ao)]) rfl ?_
  refine v_aload_n C 1 rfl rfl dL_process_0 ?_
  refine v_iconst C 0 (by decide) dL_process_1 ?_
  refine v_aload_n C 0 rfl rfl dL_process_2 ?_
  refine v_xcallVi C (st := [.int 0, .ref ao]) [] (hC.frmI i1) ml_RL_43 mi_yX4_process hx0 (by decide) (by decide +kernel) rfl (Nat.le_of_ble_eq_true rfl) (Nat.le_of_ble_eq_true rfl) (Nat.le_of_ble_eq_true rfl) (Nat.le_of_ble_eq_true rfl) (Nat.le_of_ble_eq_true rfl) dL_process_3 (fun E w9 h => ?_) (fun x w9 h => ?_) _ rfl
  · obtain ⟨u, hx, hcv, rfl⟩ := h
    rcases hpx E u hx with rfl
    · refine v_catch (name := eIS) C htb [] ⟨0, 8, 11, 41⟩ [] rfl (fun z hz => by cases hz) rfl (by decide) clk_RL_41 cst_eIS (fun q9 => ?_)
      refine v_astore_n C [(2, .ref q9), (0, .ref x0), (1, .ref ao)] (by decide) rfl rfl dL_process_11 ?_
      refine v_iconst C 1 (by decide) dL_process_12 ?_
      exact v_iret C hRT (Nat.le_of_ble_eq_true rfl) (Nat.le_of_ble_eq_true rfl) dL_process_13 ⟨_, rfl, Or.inr ⟨0, _, rfl, rfl, u, hx, hcv, rfl⟩⟩
  · obtain ⟨u, hf, hcv, rfl⟩ := h
    have hz9 := fr_out (w := w) h1 (hcv ao (by rw [hao]; decide) h1)
    have hao2 : hK (fr S1 u w) ao = 12 := hz9.1.trans hao
    have hin2 : vp_in 0 (hN (fr S1 u w) ao) := by rw [hz9.2.1, hn]; unfold vp_in; decide
    refine v_i2l C dL_process_6 ?_
    refine v_lastj C 0 rfl hao2 hin2 dL_process_7 ?_
    refine v_goto C 14 (by decide) dL_process_8 ?_
    refine v_iconst C 0 (by decide) dL_process_14 ?_
    exact v_iret C hRT (Nat.le_of_ble_eq_true rfl) (Nat.le_of_ble_eq_true rfl) dL_process_15 ⟨_, rfl, Or.inl ⟨rfl, x, u, hf, hcv, rfl⟩⟩
set_option maxRecDepth 100000 in
set_option maxHeartbeats 4000000 in
theorem c_L_distance (l : Launch) (w S1 : HS) (i1 : Inn S1 w) (x0 ao : Nat) (a0 a1 : Int32) (f : Int64 → HS → Prop) (px : String → HS → Prop) (hC : cX l yX4_distance cX4_distance 4 (Option.some Jvm.ClassFile.FieldType.long) 12 [.ref x0, .int a0, .int a1] S1 (pL f) px 2 12) (hpx : ∀ E u, px E u → E = eIO ∨ E = eNE) (hx0 : hK w x0 = 5) (hao : hK w ao = 12) (hn : hN w ao = 1) (h1 : hK S1 ao = 0) : cH l yL_distance cL_distance 5 [(0, 9, 12, 13), (0, 9, 16, 51)] 13 [.ref x0, .int a0, .int a1, .ref ao] w (pI (hP f px [eIO, eNE] S1 w (fun z x => tJ z ao 0 x))) 2 12 := by
  refine cH_intro (by decide +kernel) (Nat.le_of_ble_eq_true rfl) ?_
  intro pP eE sS mM aA bB tT cC G A C hRT htb
  refine V.lvs (lv2 := [(0, .ref x0), (1, .int a0), (2, .int a1), (3, .ref ao)]) rfl ?_
  refine v_aload_n C 3 rfl rfl dL_distance_0 ?_
  refine v_iconst C 0 (by decide) dL_distance_1 ?_
  refine v_aload_n C 0 rfl rfl dL_distance_2 ?_
  refine v_iload_n C 1 rfl rfl dL_distance_3 ?_
  refine v_iload_n C 2 rfl rfl dL_distance_4 ?_
  refine v_xcallVl C (st := [.int 0, .ref ao]) [.int a0, .int a1] (hC.frmL i1) ml_RL_47 mi_yX4_distance hx0 (by decide) (by decide +kernel) rfl (Nat.le_of_ble_eq_true rfl) (Nat.le_of_ble_eq_true rfl) (Nat.le_of_ble_eq_true rfl) (Nat.le_of_ble_eq_true rfl) (Nat.le_of_ble_eq_true rfl) dL_distance_5 (fun E w9 h => ?_) (fun x w9 h => ?_) _ rfl
  · obtain ⟨u, hx, hcv, rfl⟩ := h
    rcases hpx E u hx with rfl | rfl
    · refine v_catch (name := eIO) C htb [] ⟨0, 9, 12, 13⟩ [⟨0, 9, 16, 51⟩] rfl (fun z hz => by cases hz) rfl (by decide) clk_RL_13 cst_eIO (fun q9 => ?_)
      refine v_astore C [(4, .ref q9), (0, .ref x0), (1, .int a0), (2, .int a1), (3, .ref ao)] (by decide) rfl dL_distance_12 ?_
      refine v_iconst C 1 (by decide) dL_distance_14 ?_
      exact v_iret C hRT (Nat.le_of_ble_eq_true rfl) (Nat.le_of_ble_eq_true rfl) dL_distance_15 ⟨_, rfl, Or.inr ⟨0, _, rfl, rfl, u, hx, hcv, rfl⟩⟩
    · refine v_catch (name := eNE) C htb [⟨0, 9, 12, 13⟩] ⟨0, 9, 16, 51⟩ [] rfl (fun z hz => by rcases List.mem_cons.mp hz with rfl | hz; exact ⟨by decide, _, clk_RL_13, List.mem_of_getElem? (i := 3) rfl⟩; cases hz) rfl (by decide) clk_RL_51 cst_eNE (fun q9 => ?_)
      refine v_astore C [(4, .ref q9), (0, .ref x0), (1, .int a0), (2, .int a1), (3, .ref ao)] (by decide) rfl dL_distance_16 ?_
      refine v_iconst C 2 (by decide) dL_distance_18 ?_
      exact v_iret C hRT (Nat.le_of_ble_eq_true rfl) (Nat.le_of_ble_eq_true rfl) dL_distance_19 ⟨_, rfl, Or.inr ⟨1, _, rfl, rfl, u, hx, hcv, rfl⟩⟩
  · obtain ⟨u, hf, hcv, rfl⟩ := h
    have hz9 := fr_out (w := w) h1 (hcv ao (by rw [hao]; decide) h1)
    have hao2 : hK (fr S1 u w) ao = 12 := hz9.1.trans hao
    have hin2 : vp_in 0 (hN (fr S1 u w) ao) := by rw [hz9.2.1, hn]; unfold vp_in; decide
    refine v_lastj C 0 rfl hao2 hin2 dL_distance_8 ?_
    refine v_goto C 20 (by decide) dL_distance_9 ?_
    refine v_iconst C 0 (by decide) dL_distance_20 ?_
    exact v_iret C hRT (Nat.le_of_ble_eq_true rfl) (Nat.le_of_ble_eq_true rfl) dL_distance_21 ⟨_, rfl, Or.inl ⟨rfl, x, u, hf, hcv, rfl⟩⟩
set_option maxRecDepth 100000 in
set_option maxHeartbeats 4000000 in
theorem c_L_canTake (l : Launch) (w S1 : HS) (i1 : Inn S1 w) (x0 ao : Nat) (a0 a1 : Int32) (f : Int32 → HS → Prop) (px : String → HS → Prop) (hC : cX l yX4_canTake cX4_canTake 4 (Option.some Jvm.ClassFile.FieldType.boolean) 12 [.ref x0, .int a0, .int a1] S1 (pI f) px 2 12) (hpx : ∀ E u, px E u → E = eIO ∨ E = eNE) (hx0 : hK w x0 = 5) (hao : hK w ao = 12) (hn : hN w ao = 1) (h1 : hK S1 ao = 0) : cH l yL_canTake cL_canTake 5 [(0, 17, 20, 13), (0, 17, 24, 51)] 13 [.ref x0, .int a0, .int a1, .ref ao] w (pI (hP f px [eIO, eNE] S1 w (fun z x => tJ z ao 0 (if x = 0 then 0 else 1)))) 2 12 := by
  refine cH_intro (by decide +kernel) (Nat.le_of_ble_eq_true rfl) ?_
  intro pP eE sS mM aA bB tT cC G A C hRT htb
  refine V.lvs (lv2 := [(0, .ref x0), (1, .int a0), (2, .int a1), (3, .ref ao)]) rfl ?_
  refine v_aload_n C 3 rfl rfl dL_canTake_0 ?_
  refine v_iconst C 0 (by decide) dL_canTake_1 ?_
  refine v_aload_n C 0 rfl rfl dL_canTake_2 ?_
  refine v_iload_n C 1 rfl rfl dL_canTake_3 ?_
  refine v_iload_n C 2 rfl rfl dL_canTake_4 ?_
  refine v_xcallVi C (st := [.int 0, .ref ao]) [.int a0, .int a1] (hC.frmI i1) ml_RL_53 mi_yX4_canTake hx0 (by decide) (by decide +kernel) rfl (Nat.le_of_ble_eq_true rfl) (Nat.le_of_ble_eq_true rfl) (Nat.le_of_ble_eq_true rfl) (Nat.le_of_ble_eq_true rfl) (Nat.le_of_ble_eq_true rfl) dL_canTake_5 (fun E w9 h => ?_) (fun x w9 h => ?_) _ rfl
  · obtain ⟨u, hx, hcv, rfl⟩ := h
    rcases hpx E u hx with rfl | rfl
    · refine v_catch (name := eIO) C htb [] ⟨0, 17, 20, 13⟩ [⟨0, 17, 24, 51⟩] rfl (fun z hz => by cases hz) rfl (by decide) clk_RL_13 cst_eIO (fun q9 => ?_)
      refine v_astore C [(4, .ref q9), (0, .ref x0), (1, .int a0), (2, .int a1), (3, .ref ao)] (by decide) rfl dL_canTake_20 ?_
      refine v_iconst C 1 (by decide) dL_canTake_22 ?_
      exact v_iret C hRT (Nat.le_of_ble_eq_true rfl) (Nat.le_of_ble_eq_true rfl) dL_canTake_23 ⟨_, rfl, Or.inr ⟨0, _, rfl, rfl, u, hx, hcv, rfl⟩⟩
    · refine v_catch (name := eNE) C htb [⟨0, 17, 20, 13⟩] ⟨0, 17, 24, 51⟩ [] rfl (fun z hz => by rcases List.mem_cons.mp hz with rfl | hz; exact ⟨by decide, _, clk_RL_13, List.mem_of_getElem? (i := 3) rfl⟩; cases hz) rfl (by decide) clk_RL_51 cst_eNE (fun q9 => ?_)
      refine v_astore C [(4, .ref q9), (0, .ref x0), (1, .int a0), (2, .int a1), (3, .ref ao)] (by decide) rfl dL_canTake_24 ?_
      refine v_iconst C 2 (by decide) dL_canTake_26 ?_
      exact v_iret C hRT (Nat.le_of_ble_eq_true rfl) (Nat.le_of_ble_eq_true rfl) dL_canTake_27 ⟨_, rfl, Or.inr ⟨1, _, rfl, rfl, u, hx, hcv, rfl⟩⟩
  · obtain ⟨u, hf, hcv, rfl⟩ := h
    have hz9 := fr_out (w := w) h1 (hcv ao (by rw [hao]; decide) h1)
    have hao2 : hK (fr S1 u w) ao = 12 := hz9.1.trans hao
    have hin2 : vp_in 0 (hN (fr S1 u w) ao) := by rw [hz9.2.1, hn]; unfold vp_in; decide
    refine v_if_eq C 15 (by decide) dL_canTake_8 (fun c8 => ?_) (fun c8 => ?_)
    · refine v_lconst C 0 (by decide) dL_canTake_15 ?_
      refine v_lastj C 0 rfl hao2 hin2 dL_canTake_16 ?_
      refine v_goto C 28 (by decide) dL_canTake_17 ?_
      refine v_iconst C 0 (by decide) dL_canTake_28 ?_
      exact v_iret C hRT (Nat.le_of_ble_eq_true rfl) (Nat.le_of_ble_eq_true rfl) dL_canTake_29 ⟨_, rfl, Or.inl ⟨rfl, x, u, hf, hcv, congrArg (tJ (fr S1 u w) ao 0) (if_pos c8)⟩⟩
    · refine v_lconst C 1 (by decide) dL_canTake_11 ?_
      refine v_goto C 16 (by decide) dL_canTake_12 ?_
      refine v_lastj C 0 rfl hao2 hin2 dL_canTake_16 ?_
      refine v_goto C 28 (by decide) dL_canTake_17 ?_
      refine v_iconst C 0 (by decide) dL_canTake_28 ?_
      exact v_iret C hRT (Nat.le_of_ble_eq_true rfl) (Nat.le_of_ble_eq_true rfl) dL_canTake_29 ⟨_, rfl, Or.inl ⟨rfl, x, u, hf, hcv, congrArg (tJ (fr S1 u w) ao 0) (if_neg c8)⟩⟩
set_option maxRecDepth 100000 in
set_option maxHeartbeats 4000000 in
theorem c_L_goesTo (l : Launch) (w S1 : HS) (i1 : Inn S1 w) (x0 ao : Nat) (a0 : Int32) (f : Int32 → HS → Prop) (px : String → HS → Prop) (hC : cX l yX4_goesTo cX4_goesTo 3 (Option.some Jvm.ClassFile.FieldType.int) 16 [.ref x0, .int a0] S1 (pI f) px 1 6) (hpx : ∀ E u, px E u → E = eIO) (hx0 : hK w x0 = 5) (hao : hK w ao = 12) (hn : hN w ao = 1) (h1 : hK S1 ao = 0) : cH l yL_goesTo cL_goesTo 4 [(0, 9, 12, 13)] 17 [.ref x0, .int a0, .ref ao] w (pI (hP f px [eIO] S1 w (fun z x => tJ z ao 0 x.toInt64))) 1 6 := by
  refine cH_intro (by decide +kernel) (Nat.le_of_ble_eq_true rfl) ?_
  intro pP eE sS mM aA bB tT cC G A C hRT htb
  refine V.lvs (lv2 := [(0, .ref x0), (1, .int a0), (2, .ref ao)]) rfl ?_
  refine v_aload_n C 2 rfl rfl dL_goesTo_0 ?_
  refine v_iconst C 0 (by decide) dL_goesTo_1 ?_
  refine v_aload_n C 0 rfl rfl dL_goesTo_2 ?_
  refine v_iload_n C 1 rfl rfl dL_goesTo_3 ?_
  refine v_xcallVi C (st := [.int 0, .ref ao]) [.int a0] (hC.frmI i1) ml_RL_57 mi_yX4_goesTo hx0 (by decide) (by decide +kernel) rfl (Nat.le_of_ble_eq_true rfl) (Nat.le_of_ble_eq_true rfl) (Nat.le_of_ble_eq_true rfl) (Nat.le_of_ble_eq_true rfl) (Nat.le_of_ble_eq_true rfl) dL_goesTo_4 (fun E w9 h => ?_) (fun x w9 h => ?_) _ rfl
  · obtain ⟨u, hx, hcv, rfl⟩ := h
    rcases hpx E u hx with rfl
    · refine v_catch (name := eIO) C htb [] ⟨0, 9, 12, 13⟩ [] rfl (fun z hz => by cases hz) rfl (by decide) clk_RL_13 cst_eIO (fun q9 => ?_)
      refine v_astore_n C [(3, .ref q9), (0, .ref x0), (1, .int a0), (2, .ref ao)] (by decide) rfl rfl dL_goesTo_12 ?_
      refine v_iconst C 1 (by decide) dL_goesTo_13 ?_
      exact v_iret C hRT (Nat.le_of_ble_eq_true rfl) (Nat.le_of_ble_eq_true rfl) dL_goesTo_14 ⟨_, rfl, Or.inr ⟨0, _, rfl, rfl, u, hx, hcv, rfl⟩⟩
  · obtain ⟨u, hf, hcv, rfl⟩ := h
    have hz9 := fr_out (w := w) h1 (hcv ao (by rw [hao]; decide) h1)
    have hao2 : hK (fr S1 u w) ao = 12 := hz9.1.trans hao
    have hin2 : vp_in 0 (hN (fr S1 u w) ao) := by rw [hz9.2.1, hn]; unfold vp_in; decide
    refine v_i2l C dL_goesTo_7 ?_
    refine v_lastj C 0 rfl hao2 hin2 dL_goesTo_8 ?_
    refine v_goto C 15 (by decide) dL_goesTo_9 ?_
    refine v_iconst C 0 (by decide) dL_goesTo_15 ?_
    exact v_iret C hRT (Nat.le_of_ble_eq_true rfl) (Nat.le_of_ble_eq_true rfl) dL_goesTo_16 ⟨_, rfl, Or.inl ⟨rfl, x, u, hf, hcv, rfl⟩⟩
set_option maxRecDepth 100000 in
set_option maxHeartbeats 4000000 in
theorem c_L_status (l : Launch) (w S1 : HS) (i1 : Inn S1 w) (x0 ao : Nat) (a0 : Int32) (f : Int32 → HS → Prop) (px : String → HS → Prop) (hC : cX l yX4_status cX4_status 3 (Option.some Jvm.ClassFile.FieldType.char) 8 [.ref x0, .int a0] S1 (pI f) px 1 6) (hpx : ∀ E u, px E u → E = eIO) (hx0 : hK w x0 = 5) (hao : hK w ao = 12) (hn : hN w ao = 1) (h1 : hK S1 ao = 0) : cH l yL_status cL_status 4 [(0, 9, 12, 13)] 9 [.ref x0, .int a0, .ref ao] w (pI (hP f px [eIO] S1 w (fun z x => tJ z ao 0 x.toInt64))) 1 6 := by
  refine cH_intro (by decide +kernel) (Nat.le_of_ble_eq_true rfl) ?_
  intro pP eE sS mM aA bB tT cC G A C hRT htb
  refine V.lvs (lv2 := [(0, .ref x0), (1, .int a0), (2, .ref ao)]) rfl ?_
  refine v_aload_n C 2 rfl rfl dL_status_0 ?_
  refine v_iconst C 0 (by decide) dL_status_1 ?_
  refine v_aload_n C 0 rfl rfl dL_status_2 ?_
  refine v_iload_n C 1 rfl rfl dL_status_3 ?_
  refine v_xcallVi C (st := [.int 0, .ref ao]) [.int a0] (hC.frmI i1) ml_RL_60 mi_yX4_status hx0 (by decide) (by decide +kernel) rfl (Nat.le_of_ble_eq_true rfl) (Nat.le_of_ble_eq_true rfl) (Nat.le_of_ble_eq_true rfl) (Nat.le_of_ble_eq_true rfl) (Nat.le_of_ble_eq_true rfl) dL_status_4 (fun E w9 h => ?_) (fun x w9 h => ?_) _ rfl
  · obtain ⟨u, hx, hcv, rfl⟩ := h
    rcases hpx E u hx with rfl
    · refine v_catch (name := eIO) C htb [] ⟨0, 9, 12, 13⟩ [] rfl (fun z hz => by cases hz) rfl (by decide) clk_RL_13 cst_eIO (fun q9 => ?_)
      refine v_astore_n C [(3, .ref q9), (0, .ref x0), (1, .int a0), (2, .ref ao)] (by decide) rfl rfl dL_status_12 ?_
      refine v_iconst C 1 (by decide) dL_status_13 ?_
      exact v_iret C hRT (Nat.le_of_ble_eq_true rfl) (Nat.le_of_ble_eq_true rfl) dL_status_14 ⟨_, rfl, Or.inr ⟨0, _, rfl, rfl, u, hx, hcv, rfl⟩⟩
  · obtain ⟨u, hf, hcv, rfl⟩ := h
    have hz9 := fr_out (w := w) h1 (hcv ao (by rw [hao]; decide) h1)
    have hao2 : hK (fr S1 u w) ao = 12 := hz9.1.trans hao
    have hin2 : vp_in 0 (hN (fr S1 u w) ao) := by rw [hz9.2.1, hn]; unfold vp_in; decide
    refine v_i2l C dL_status_7 ?_
    refine v_lastj C 0 rfl hao2 hin2 dL_status_8 ?_
    refine v_goto C 15 (by decide) dL_status_9 ?_
    refine v_iconst C 0 (by decide) dL_status_15 ?_
    exact v_iret C hRT (Nat.le_of_ble_eq_true rfl) (Nat.le_of_ble_eq_true rfl) dL_status_16 ⟨_, rfl, Or.inl ⟨rfl, x, u, hf, hcv, rfl⟩⟩
set_option maxRecDepth 100000 in
set_option maxHeartbeats 4000000 in
theorem c_L_timeOf (l : Launch) (w S1 : HS) (i1 : Inn S1 w) (x0 ao : Nat) (a0 : Int32) (f : Int32 → HS → Prop) (px : String → HS → Prop) (hC : cX l yX4_timeOf cX4_timeOf 2 (Option.some Jvm.ClassFile.FieldType.int) 8 [.ref x0, .int a0] S1 (pI f) px 1 6) (hpx : ∀ E u, px E u → E = eIO) (hx0 : hK w x0 = 5) (hao : hK w ao = 12) (hn : hN w ao = 1) (h1 : hK S1 ao = 0) : cH l yL_timeOf cL_timeOf 4 [(0, 9, 12, 13)] 9 [.ref x0, .int a0, .ref ao] w (pI (hP f px [eIO] S1 w (fun z x => tJ z ao 0 x.toInt64))) 1 6 := by
  refine cH_intro (by decide +kernel) (Nat.le_of_ble_eq_true rfl) ?_
  intro pP eE sS mM aA bB tT cC G A C hRT htb
  refine V.lvs (lv2 := [(0, .ref x0), (1, .int a0), (2, .ref ao)]) rfl ?_
  refine v_aload_n C 2 rfl rfl dL_timeOf_0 ?_
  refine v_iconst C 0 (by decide) dL_timeOf_1 ?_
  refine v_aload_n C 0 rfl rfl dL_timeOf_2 ?_
  refine v_iload_n C 1 rfl rfl dL_timeOf_3 ?_
  refine v_xcallVi C (st := [.int 0, .ref ao]) [.int a0] (hC.frmI i1) ml_RL_64 mi_yX4_timeOf hx0 (by decide) (by decide +kernel) rfl (Nat.le_of_ble_eq_true rfl) (Nat.le_of_ble_eq_true rfl) (Nat.le_of_ble_eq_true rfl) (Nat.le_of_ble_eq_true rfl) (Nat.le_of_ble_eq_true rfl) dL_timeOf_4 (fun E w9 h => ?_) (fun x w9 h => ?_) _ rfl
  · obtain ⟨u, hx, hcv, rfl⟩ := h
    rcases hpx E u hx with rfl
    · refine v_catch (name := eIO) C htb [] ⟨0, 9, 12, 13⟩ [] rfl (fun z hz => by cases hz) rfl (by decide) clk_RL_13 cst_eIO (fun q9 => ?_)
      refine v_astore_n C [(3, .ref q9), (0, .ref x0), (1, .int a0), (2, .ref ao)] (by decide) rfl rfl dL_timeOf_12 ?_
      refine v_iconst C 1 (by decide) dL_timeOf_13 ?_
      exact v_iret C hRT (Nat.le_of_ble_eq_true rfl) (Nat.le_of_ble_eq_true rfl) dL_timeOf_14 ⟨_, rfl, Or.inr ⟨0, _, rfl, rfl, u, hx, hcv, rfl⟩⟩
  · obtain ⟨u, hf, hcv, rfl⟩ := h
    have hz9 := fr_out (w := w) h1 (hcv ao (by rw [hao]; decide) h1)
    have hao2 : hK (fr S1 u w) ao = 12 := hz9.1.trans hao
    have hin2 : vp_in 0 (hN (fr S1 u w) ao) := by rw [hz9.2.1, hn]; unfold vp_in; decide
    refine v_i2l C dL_timeOf_7 ?_
    refine v_lastj C 0 rfl hao2 hin2 dL_timeOf_8 ?_
    refine v_goto C 15 (by decide) dL_timeOf_9 ?_
    refine v_iconst C 0 (by decide) dL_timeOf_15 ?_
    exact v_iret C hRT (Nat.le_of_ble_eq_true rfl) (Nat.le_of_ble_eq_true rfl) dL_timeOf_16 ⟨_, rfl, Or.inl ⟨rfl, x, u, hf, hcv, rfl⟩⟩
set_option maxRecDepth 100000 in
set_option maxHeartbeats 4000000 in
theorem c_L_stateOf (l : Launch) (w S1 : HS) (i1 : Inn S1 w) (x0 ao : Nat) (a0 a1 : Int32) (f : Int32 → HS → Prop) (px : String → HS → Prop) (hC : cX l yX4_stateOf cX4_stateOf 4 (Option.some Jvm.ClassFile.FieldType.int) 10 [.ref x0, .int a0, .int a1] S1 (pI f) px 2 12) (hpx : ∀ E u, px E u → E = eIO ∨ E = eIA) (hx0 : hK w x0 = 5) (hao : hK w ao = 12) (hn : hN w ao = 1) (h1 : hK S1 ao = 0) : cH l yL_stateOf cL_stateOf 5 [(0, 10, 13, 13), (0, 10, 17, 15)] 11 [.ref x0, .int a0, .int a1, .ref ao] w (pI (hP f px [eIO, eIA] S1 w (fun z x => tJ z ao 0 x.toInt64))) 2 12 := by
  refine cH_intro (by decide +kernel) (Nat.le_of_ble_eq_true rfl) ?_
  intro pP eE sS mM aA bB tT cC G A C hRT htb
  refine V.lvs (lv2 := [(0, .ref x0), (1, .int a0), (2, .int a1), (3, .ref ao)]) rfl ?_
  refine v_aload_n C 3 rfl rfl dL_stateOf_0 ?_
  refine v_iconst C 0 (by decide) dL_stateOf_1 ?_
  refine v_aload_n C 0 rfl rfl dL_stateOf_2 ?_
  refine v_iload_n C 1 rfl rfl dL_stateOf_3 ?_
  refine v_iload_n C 2 rfl rfl dL_stateOf_4 ?_
  refine v_xcallVi C (st := [.int 0, .ref ao]) [.int a0, .int a1] (hC.frmI i1) ml_RL_67 mi_yX4_stateOf hx0 (by decide) (by decide +kernel) rfl (Nat.le_of_ble_eq_true rfl) (Nat.le_of_ble_eq_true rfl) (Nat.le_of_ble_eq_true rfl) (Nat.le_of_ble_eq_true rfl) (Nat.le_of_ble_eq_true rfl) dL_stateOf_5 (fun E w9 h => ?_) (fun x w9 h => ?_) _ rfl
  · obtain ⟨u, hx, hcv, rfl⟩ := h
    rcases hpx E u hx with rfl | rfl
    · refine v_catch (name := eIO) C htb [] ⟨0, 10, 13, 13⟩ [⟨0, 10, 17, 15⟩] rfl (fun z hz => by cases hz) rfl (by decide) clk_RL_13 cst_eIO (fun q9 => ?_)
      refine v_astore C [(4, .ref q9), (0, .ref x0), (1, .int a0), (2, .int a1), (3, .ref ao)] (by decide) rfl dL_stateOf_13 ?_
      refine v_iconst C 1 (by decide) dL_stateOf_15 ?_
      exact v_iret C hRT (Nat.le_of_ble_eq_true rfl) (Nat.le_of_ble_eq_true rfl) dL_stateOf_16 ⟨_, rfl, Or.inr ⟨0, _, rfl, rfl, u, hx, hcv, rfl⟩⟩
    · refine v_catch (name := eIA) C htb [⟨0, 10, 13, 13⟩] ⟨0, 10, 17, 15⟩ [] rfl (fun z hz => by rcases List.mem_cons.mp hz with rfl | hz; exact ⟨by decide, _, clk_RL_13, List.mem_of_getElem? (i := 0) rfl⟩; cases hz) rfl (by decide) clk_RL_15 cst_eIA (fun q9 => ?_)
      refine v_astore C [(4, .ref q9), (0, .ref x0), (1, .int a0), (2, .int a1), (3, .ref ao)] (by decide) rfl dL_stateOf_17 ?_
      refine v_iconst C 2 (by decide) dL_stateOf_19 ?_
      exact v_iret C hRT (Nat.le_of_ble_eq_true rfl) (Nat.le_of_ble_eq_true rfl) dL_stateOf_20 ⟨_, rfl, Or.inr ⟨1, _, rfl, rfl, u, hx, hcv, rfl⟩⟩
  · obtain ⟨u, hf, hcv, rfl⟩ := h
    have hz9 := fr_out (w := w) h1 (hcv ao (by rw [hao]; decide) h1)
    have hao2 : hK (fr S1 u w) ao = 12 := hz9.1.trans hao
    have hin2 : vp_in 0 (hN (fr S1 u w) ao) := by rw [hz9.2.1, hn]; unfold vp_in; decide
    refine v_i2l C dL_stateOf_8 ?_
    refine v_lastj C 0 rfl hao2 hin2 dL_stateOf_9 ?_
    refine v_goto C 21 (by decide) dL_stateOf_10 ?_
    refine v_iconst C 0 (by decide) dL_stateOf_21 ?_
    exact v_iret C hRT (Nat.le_of_ble_eq_true rfl) (Nat.le_of_ble_eq_true rfl) dL_stateOf_22 ⟨_, rfl, Or.inl ⟨rfl, x, u, hf, hcv, rfl⟩⟩
set_option maxRecDepth 100000 in
set_option maxHeartbeats 4000000 in
theorem c_L_predicted (l : Launch) (w S1 : HS) (i1 : Inn S1 w) (x0 ao : Nat) (a0 a1 a2 : Int32) (f : Int32 → HS → Prop) (px : String → HS → Prop) (hC : cX l yX4_predicted cX4_predicted 5 (Option.some Jvm.ClassFile.FieldType.int) 10 [.ref x0, .int a0, .int a1, .int a2] S1 (pI f) px 2 12) (hpx : ∀ E u, px E u → E = eIO ∨ E = eIA) (hx0 : hK w x0 = 5) (hao : hK w ao = 12) (hn : hN w ao = 1) (h1 : hK S1 ao = 0) : cH l yL_predicted cL_predicted 6 [(0, 12, 15, 13), (0, 12, 19, 15)] 11 [.ref x0, .int a0, .int a1, .int a2, .ref ao] w (pI (hP f px [eIO, eIA] S1 w (fun z x => tJ z ao 0 x.toInt64))) 2 12 := by
  refine cH_intro (by decide +kernel) (Nat.le_of_ble_eq_true rfl) ?_
  intro pP eE sS mM aA bB tT cC G A C hRT htb
  refine V.lvs (lv2 := [(0, .ref x0), (1, .int a0), (2, .int a1), (3, .int a2), (4, .ref ao)]) rfl ?_
  refine v_aload C 4 rfl dL_predicted_0 ?_
  refine v_iconst C 0 (by decide) dL_predicted_2 ?_
  refine v_aload_n C 0 rfl rfl dL_predicted_3 ?_
  refine v_iload_n C 1 rfl rfl dL_predicted_4 ?_
  refine v_iload_n C 2 rfl rfl dL_predicted_5 ?_
  refine v_iload_n C 3 rfl rfl dL_predicted_6 ?_
  refine v_xcallVi C (st := [.int 0, .ref ao]) [.int a0, .int a1, .int a2] (hC.frmI i1) ml_RL_70 mi_yX4_predicted hx0 (by decide) (by decide +kernel) rfl (Nat.le_of_ble_eq_true rfl) (Nat.le_of_ble_eq_true rfl) (Nat.le_of_ble_eq_true rfl) (Nat.le_of_ble_eq_true rfl) (Nat.le_of_ble_eq_true rfl) dL_predicted_7 (fun E w9 h => ?_) (fun x w9 h => ?_) _ rfl
  · obtain ⟨u, hx, hcv, rfl⟩ := h
    rcases hpx E u hx with rfl | rfl
    · refine v_catch (name := eIO) C htb [] ⟨0, 12, 15, 13⟩ [⟨0, 12, 19, 15⟩] rfl (fun z hz => by cases hz) rfl (by decide) clk_RL_13 cst_eIO (fun q9 => ?_)
      refine v_astore C [(5, .ref q9), (0, .ref x0), (1, .int a0), (2, .int a1), (3, .int a2), (4, .ref ao)] (by decide) rfl dL_predicted_15 ?_
      refine v_iconst C 1 (by decide) dL_predicted_17 ?_
      exact v_iret C hRT (Nat.le_of_ble_eq_true rfl) (Nat.le_of_ble_eq_true rfl) dL_predicted_18 ⟨_, rfl, Or.inr ⟨0, _, rfl, rfl, u, hx, hcv, rfl⟩⟩
    · refine v_catch (name := eIA) C htb [⟨0, 12, 15, 13⟩] ⟨0, 12, 19, 15⟩ [] rfl (fun z hz => by rcases List.mem_cons.mp hz with rfl | hz; exact ⟨by decide, _, clk_RL_13, List.mem_of_getElem? (i := 0) rfl⟩; cases hz) rfl (by decide) clk_RL_15 cst_eIA (fun q9 => ?_)
      refine v_astore C [(5, .ref q9), (0, .ref x0), (1, .int a0), (2, .int a1), (3, .int a2), (4, .ref ao)] (by decide) rfl dL_predicted_19 ?_
      refine v_iconst C 2 (by decide) dL_predicted_21 ?_
      exact v_iret C hRT (Nat.le_of_ble_eq_true rfl) (Nat.le_of_ble_eq_true rfl) dL_predicted_22 ⟨_, rfl, Or.inr ⟨1, _, rfl, rfl, u, hx, hcv, rfl⟩⟩
  · obtain ⟨u, hf, hcv, rfl⟩ := h
    have hz9 := fr_out (w := w) h1 (hcv ao (by rw [hao]; decide) h1)
    have hao2 : hK (fr S1 u w) ao = 12 := hz9.1.trans hao
    have hin2 : vp_in 0 (hN (fr S1 u w) ao) := by rw [hz9.2.1, hn]; unfold vp_in; decide
    refine v_i2l C dL_predicted_10 ?_
    refine v_lastj C 0 rfl hao2 hin2 dL_predicted_11 ?_
    refine v_goto C 23 (by decide) dL_predicted_12 ?_
    refine v_iconst C 0 (by decide) dL_predicted_23 ?_
    exact v_iret C hRT (Nat.le_of_ble_eq_true rfl) (Nat.le_of_ble_eq_true rfl) dL_predicted_24 ⟨_, rfl, Or.inl ⟨rfl, x, u, hf, hcv, rfl⟩⟩
set_option maxRecDepth 100000 in
set_option maxHeartbeats 4000000 in
theorem c_L_hits (l : Launch) (w S1 : HS) (i1 : Inn S1 w) (x0 ao : Nat) (a0 : Int32) (f : Int32 → HS → Prop) (px : String → HS → Prop) (hC : cX l yX4_hits cX4_hits 2 (Option.some Jvm.ClassFile.FieldType.int) 8 [.ref x0, .int a0] S1 (pI f) px 1 6) (hpx : ∀ E u, px E u → E = eIO) (hx0 : hK w x0 = 5) (hao : hK w ao = 12) (hn : hN w ao = 1) (h1 : hK S1 ao = 0) : cH l yL_hits cL_hits 4 [(0, 9, 12, 13)] 9 [.ref x0, .int a0, .ref ao] w (pI (hP f px [eIO] S1 w (fun z x => tJ z ao 0 x.toInt64))) 1 6 := by
  refine cH_intro (by decide +kernel) (Nat.le_of_ble_eq_true rfl) ?_
  intro pP eE sS mM aA bB tT cC G A C hRT htb
  refine V.lvs (lv2 := [(0, .ref x0), (1, .int a0), (2, .ref ao)]) rfl ?_
  refine v_aload_n C 2 rfl rfl dL_hits_0 ?_
  refine v_iconst C 0 (by decide) dL_hits_1 ?_
  refine v_aload_n C 0 rfl rfl dL_hits_2 ?_
  refine v_iload_n C 1 rfl rfl dL_hits_3 ?_
  refine v_xcallVi C (st := [.int 0, .ref ao]) [.int a0] (hC.frmI i1) ml_RL_74 mi_yX4_hits hx0 (by decide) (by decide +kernel) rfl (Nat.le_of_ble_eq_true rfl) (Nat.le_of_ble_eq_true rfl) (Nat.le_of_ble_eq_true rfl) (Nat.le_of_ble_eq_true rfl) (Nat.le_of_ble_eq_true rfl) dL_hits_4 (fun E w9 h => ?_) (fun x w9 h => ?_) _ rfl
  · obtain ⟨u, hx, hcv, rfl⟩ := h
    rcases hpx E u hx with rfl
    · refine v_catch (name := eIO) C htb [] ⟨0, 9, 12, 13⟩ [] rfl (fun z hz => by cases hz) rfl (by decide) clk_RL_13 cst_eIO (fun q9 => ?_)
      refine v_astore_n C [(3, .ref q9), (0, .ref x0), (1, .int a0), (2, .ref ao)] (by decide) rfl rfl dL_hits_12 ?_
      refine v_iconst C 1 (by decide) dL_hits_13 ?_
      exact v_iret C hRT (Nat.le_of_ble_eq_true rfl) (Nat.le_of_ble_eq_true rfl) dL_hits_14 ⟨_, rfl, Or.inr ⟨0, _, rfl, rfl, u, hx, hcv, rfl⟩⟩
  · obtain ⟨u, hf, hcv, rfl⟩ := h
    have hz9 := fr_out (w := w) h1 (hcv ao (by rw [hao]; decide) h1)
    have hao2 : hK (fr S1 u w) ao = 12 := hz9.1.trans hao
    have hin2 : vp_in 0 (hN (fr S1 u w) ao) := by rw [hz9.2.1, hn]; unfold vp_in; decide
    refine v_i2l C dL_hits_7 ?_
    refine v_lastj C 0 rfl hao2 hin2 dL_hits_8 ?_
    refine v_goto C 15 (by decide) dL_hits_9 ?_
    refine v_iconst C 0 (by decide) dL_hits_15 ?_
    exact v_iret C hRT (Nat.le_of_ble_eq_true rfl) (Nat.le_of_ble_eq_true rfl) dL_hits_16 ⟨_, rfl, Or.inl ⟨rfl, x, u, hf, hcv, rfl⟩⟩
set_option maxRecDepth 100000 in
set_option maxHeartbeats 4000000 in
theorem c_L_misses (l : Launch) (w S1 : HS) (i1 : Inn S1 w) (x0 ao : Nat) (a0 : Int32) (f : Int32 → HS → Prop) (px : String → HS → Prop) (hC : cX l yX4_misses cX4_misses 2 (Option.some Jvm.ClassFile.FieldType.int) 8 [.ref x0, .int a0] S1 (pI f) px 1 6) (hpx : ∀ E u, px E u → E = eIO) (hx0 : hK w x0 = 5) (hao : hK w ao = 12) (hn : hN w ao = 1) (h1 : hK S1 ao = 0) : cH l yL_misses cL_misses 4 [(0, 9, 12, 13)] 9 [.ref x0, .int a0, .ref ao] w (pI (hP f px [eIO] S1 w (fun z x => tJ z ao 0 x.toInt64))) 1 6 := by
  refine cH_intro (by decide +kernel) (Nat.le_of_ble_eq_true rfl) ?_
  intro pP eE sS mM aA bB tT cC G A C hRT htb
  refine V.lvs (lv2 := [(0, .ref x0), (1, .int a0), (2, .ref ao)]) rfl ?_
  refine v_aload_n C 2 rfl rfl dL_misses_0 ?_
  refine v_iconst C 0 (by decide) dL_misses_1 ?_
  refine v_aload_n C 0 rfl rfl dL_misses_2 ?_
  refine v_iload_n C 1 rfl rfl dL_misses_3 ?_
  refine v_xcallVi C (st := [.int 0, .ref ao]) [.int a0] (hC.frmI i1) ml_RL_77 mi_yX4_misses hx0 (by decide) (by decide +kernel) rfl (Nat.le_of_ble_eq_true rfl) (Nat.le_of_ble_eq_true rfl) (Nat.le_of_ble_eq_true rfl) (Nat.le_of_ble_eq_true rfl) (Nat.le_of_ble_eq_true rfl) dL_misses_4 (fun E w9 h => ?_) (fun x w9 h => ?_) _ rfl
  · obtain ⟨u, hx, hcv, rfl⟩ := h
    rcases hpx E u hx with rfl
    · refine v_catch (name := eIO) C htb [] ⟨0, 9, 12, 13⟩ [] rfl (fun z hz => by cases hz) rfl (by decide) clk_RL_13 cst_eIO (fun q9 => ?_)
      refine v_astore_n C [(3, .ref q9), (0, .ref x0), (1, .int a0), (2, .ref ao)] (by decide) rfl rfl dL_misses_12 ?_
      refine v_iconst C 1 (by decide) dL_misses_13 ?_
      exact v_iret C hRT (Nat.le_of_ble_eq_true rfl) (Nat.le_of_ble_eq_true rfl) dL_misses_14 ⟨_, rfl, Or.inr ⟨0, _, rfl, rfl, u, hx, hcv, rfl⟩⟩
  · obtain ⟨u, hf, hcv, rfl⟩ := h
    have hz9 := fr_out (w := w) h1 (hcv ao (by rw [hao]; decide) h1)
    have hao2 : hK (fr S1 u w) ao = 12 := hz9.1.trans hao
    have hin2 : vp_in 0 (hN (fr S1 u w) ao) := by rw [hz9.2.1, hn]; unfold vp_in; decide
    refine v_i2l C dL_misses_7 ?_
    refine v_lastj C 0 rfl hao2 hin2 dL_misses_8 ?_
    refine v_goto C 15 (by decide) dL_misses_9 ?_
    refine v_iconst C 0 (by decide) dL_misses_15 ?_
    exact v_iret C hRT (Nat.le_of_ble_eq_true rfl) (Nat.le_of_ble_eq_true rfl) dL_misses_16 ⟨_, rfl, Or.inl ⟨rfl, x, u, hf, hcv, rfl⟩⟩
set_option maxRecDepth 100000 in
set_option maxHeartbeats 4000000 in
theorem c_L_mergedInto (l : Launch) (w S1 : HS) (i1 : Inn S1 w) (x0 ao : Nat) (a0 : Int32) (f : Int32 → HS → Prop) (px : String → HS → Prop) (hC : cX l yX4_mergedInto cX4_mergedInto 3 (Option.some Jvm.ClassFile.FieldType.int) 8 [.ref x0, .int a0] S1 (pI f) px 2 12) (hpx : ∀ E u, px E u → E = eIO ∨ E = eNE) (hx0 : hK w x0 = 5) (hao : hK w ao = 12) (hn : hN w ao = 1) (h1 : hK S1 ao = 0) : cH l yL_mergedInto cL_mergedInto 4 [(0, 9, 12, 13), (0, 9, 15, 51)] 9 [.ref x0, .int a0, .ref ao] w (pI (hP f px [eIO, eNE] S1 w (fun z x => tJ z ao 0 x.toInt64))) 2 12 := by
  refine cH_intro (by decide +kernel) (Nat.le_of_ble_eq_true rfl) ?_
  intro pP eE sS mM aA bB tT cC G A C hRT htb
  refine V.lvs (lv2 := [(0, .ref x0), (1, .int a0), (2, .ref ao)]) rfl ?_
  refine v_aload_n C 2 rfl rfl dL_mergedInto_0 ?_
  refine v_iconst C 0 (by decide) dL_mergedInto_1 ?_
  refine v_aload_n C 0 rfl rfl dL_mergedInto_2 ?_
  refine v_iload_n C 1 rfl rfl dL_mergedInto_3 ?_
  refine v_xcallVi C (st := [.int 0, .ref ao]) [.int a0] (hC.frmI i1) ml_RL_80 mi_yX4_mergedInto hx0 (by decide) (by decide +kernel) rfl (Nat.le_of_ble_eq_true rfl) (Nat.le_of_ble_eq_true rfl) (Nat.le_of_ble_eq_true rfl) (Nat.le_of_ble_eq_true rfl) (Nat.le_of_ble_eq_true rfl) dL_mergedInto_4 (fun E w9 h => ?_) (fun x w9 h => ?_) _ rfl
  · obtain ⟨u, hx, hcv, rfl⟩ := h
    rcases hpx E u hx with rfl | rfl
    · refine v_catch (name := eIO) C htb [] ⟨0, 9, 12, 13⟩ [⟨0, 9, 15, 51⟩] rfl (fun z hz => by cases hz) rfl (by decide) clk_RL_13 cst_eIO (fun q9 => ?_)
      refine v_astore_n C [(3, .ref q9), (0, .ref x0), (1, .int a0), (2, .ref ao)] (by decide) rfl rfl dL_mergedInto_12 ?_
      refine v_iconst C 1 (by decide) dL_mergedInto_13 ?_
      exact v_iret C hRT (Nat.le_of_ble_eq_true rfl) (Nat.le_of_ble_eq_true rfl) dL_mergedInto_14 ⟨_, rfl, Or.inr ⟨0, _, rfl, rfl, u, hx, hcv, rfl⟩⟩
    · refine v_catch (name := eNE) C htb [⟨0, 9, 12, 13⟩] ⟨0, 9, 15, 51⟩ [] rfl (fun z hz => by rcases List.mem_cons.mp hz with rfl | hz; exact ⟨by decide, _, clk_RL_13, List.mem_of_getElem? (i := 3) rfl⟩; cases hz) rfl (by decide) clk_RL_51 cst_eNE (fun q9 => ?_)
      refine v_astore_n C [(3, .ref q9), (0, .ref x0), (1, .int a0), (2, .ref ao)] (by decide) rfl rfl dL_mergedInto_15 ?_
      refine v_iconst C 2 (by decide) dL_mergedInto_16 ?_
      exact v_iret C hRT (Nat.le_of_ble_eq_true rfl) (Nat.le_of_ble_eq_true rfl) dL_mergedInto_17 ⟨_, rfl, Or.inr ⟨1, _, rfl, rfl, u, hx, hcv, rfl⟩⟩
  · obtain ⟨u, hf, hcv, rfl⟩ := h
    have hz9 := fr_out (w := w) h1 (hcv ao (by rw [hao]; decide) h1)
    have hao2 : hK (fr S1 u w) ao = 12 := hz9.1.trans hao
    have hin2 : vp_in 0 (hN (fr S1 u w) ao) := by rw [hz9.2.1, hn]; unfold vp_in; decide
    refine v_i2l C dL_mergedInto_7 ?_
    refine v_lastj C 0 rfl hao2 hin2 dL_mergedInto_8 ?_
    refine v_goto C 18 (by decide) dL_mergedInto_9 ?_
    refine v_iconst C 0 (by decide) dL_mergedInto_18 ?_
    exact v_iret C hRT (Nat.le_of_ble_eq_true rfl) (Nat.le_of_ble_eq_true rfl) dL_mergedInto_19 ⟨_, rfl, Or.inl ⟨rfl, x, u, hf, hcv, rfl⟩⟩
set_option maxRecDepth 100000 in
set_option maxHeartbeats 4000000 in
theorem c_L_historyLength (l : Launch) (w S1 : HS) (i1 : Inn S1 w) (x0 ao : Nat) (a0 : Int32) (f : Int32 → HS → Prop) (px : String → HS → Prop) (hC : cX l yX4_historyLength cX4_historyLength 2 (Option.some Jvm.ClassFile.FieldType.int) 8 [.ref x0, .int a0] S1 (pI f) px 1 6) (hpx : ∀ E u, px E u → E = eIO) (hx0 : hK w x0 = 5) (hao : hK w ao = 12) (hn : hN w ao = 1) (h1 : hK S1 ao = 0) : cH l yL_historyLength cL_historyLength 4 [(0, 9, 12, 13)] 9 [.ref x0, .int a0, .ref ao] w (pI (hP f px [eIO] S1 w (fun z x => tJ z ao 0 x.toInt64))) 1 6 := by
  refine cH_intro (by decide +kernel) (Nat.le_of_ble_eq_true rfl) ?_
  intro pP eE sS mM aA bB tT cC G A C hRT htb
  refine V.lvs (lv2 := [(0, .ref x0), (1, .int a0), (2, .ref ao)]) rfl ?_
  refine v_aload_n C 2 rfl rfl dL_historyLength_0 ?_
  refine v_iconst C 0 (by decide) dL_historyLength_1 ?_
  refine v_aload_n C 0 rfl rfl dL_historyLength_2 ?_
  refine v_iload_n C 1 rfl rfl dL_historyLength_3 ?_
  refine v_xcallVi C (st := [.int 0, .ref ao]) [.int a0] (hC.frmI i1) ml_RL_83 mi_yX4_historyLength hx0 (by decide) (by decide +kernel) rfl (Nat.le_of_ble_eq_true rfl) (Nat.le_of_ble_eq_true rfl) (Nat.le_of_ble_eq_true rfl) (Nat.le_of_ble_eq_true rfl) (Nat.le_of_ble_eq_true rfl) dL_historyLength_4 (fun E w9 h => ?_) (fun x w9 h => ?_) _ rfl
  · obtain ⟨u, hx, hcv, rfl⟩ := h
    rcases hpx E u hx with rfl
    · refine v_catch (name := eIO) C htb [] ⟨0, 9, 12, 13⟩ [] rfl (fun z hz => by cases hz) rfl (by decide) clk_RL_13 cst_eIO (fun q9 => ?_)
      refine v_astore_n C [(3, .ref q9), (0, .ref x0), (1, .int a0), (2, .ref ao)] (by decide) rfl rfl dL_historyLength_12 ?_
      refine v_iconst C 1 (by decide) dL_historyLength_13 ?_
      exact v_iret C hRT (Nat.le_of_ble_eq_true rfl) (Nat.le_of_ble_eq_true rfl) dL_historyLength_14 ⟨_, rfl, Or.inr ⟨0, _, rfl, rfl, u, hx, hcv, rfl⟩⟩
  · obtain ⟨u, hf, hcv, rfl⟩ := h
    have hz9 := fr_out (w := w) h1 (hcv ao (by rw [hao]; decide) h1)
    have hao2 : hK (fr S1 u w) ao = 12 := hz9.1.trans hao
    have hin2 : vp_in 0 (hN (fr S1 u w) ao) := by rw [hz9.2.1, hn]; unfold vp_in; decide
    refine v_i2l C dL_historyLength_7 ?_
    refine v_lastj C 0 rfl hao2 hin2 dL_historyLength_8 ?_
    refine v_goto C 15 (by decide) dL_historyLength_9 ?_
    refine v_iconst C 0 (by decide) dL_historyLength_15 ?_
    exact v_iret C hRT (Nat.le_of_ble_eq_true rfl) (Nat.le_of_ble_eq_true rfl) dL_historyLength_16 ⟨_, rfl, Or.inl ⟨rfl, x, u, hf, hcv, rfl⟩⟩
set_option maxRecDepth 100000 in
set_option maxHeartbeats 4000000 in
theorem c_L_historyAt (l : Launch) (w S1 : HS) (i1 : Inn S1 w) (x0 ao : Nat) (a0 a1 : Int32) (f : Int32 → HS → Prop) (px : String → HS → Prop) (hC : cX l yX4_historyAt cX4_historyAt 4 (Option.some Jvm.ClassFile.FieldType.char) 8 [.ref x0, .int a0, .int a1] S1 (pI f) px 2 12) (hpx : ∀ E u, px E u → E = eIO ∨ E = eNE) (hx0 : hK w x0 = 5) (hao : hK w ao = 12) (hn : hN w ao = 1) (h1 : hK S1 ao = 0) : cH l yL_historyAt cL_historyAt 5 [(0, 10, 13, 13), (0, 10, 17, 51)] 9 [.ref x0, .int a0, .int a1, .ref ao] w (pI (hP f px [eIO, eNE] S1 w (fun z x => tJ z ao 0 x.toInt64))) 2 12 := by
  refine cH_intro (by decide +kernel) (Nat.le_of_ble_eq_true rfl) ?_
  intro pP eE sS mM aA bB tT cC G A C hRT htb
  refine V.lvs (lv2 := [(0, .ref x0), (1, .int a0), (2, .int a1), (3, .ref ao)]) rfl ?_
  refine v_aload_n C 3 rfl rfl dL_historyAt_0 ?_
  refine v_iconst C 0 (by decide) dL_historyAt_1 ?_
  refine v_aload_n C 0 rfl rfl dL_historyAt_2 ?_
  refine v_iload_n C 1 rfl rfl dL_historyAt_3 ?_
  refine v_iload_n C 2 rfl rfl dL_historyAt_4 ?_
  refine v_xcallVi C (st := [.int 0, .ref ao]) [.int a0, .int a1] (hC.frmI i1) ml_RL_86 mi_yX4_historyAt hx0 (by decide) (by decide +kernel) rfl (Nat.le_of_ble_eq_true rfl) (Nat.le_of_ble_eq_true rfl) (Nat.le_of_ble_eq_true rfl) (Nat.le_of_ble_eq_true rfl) (Nat.le_of_ble_eq_true rfl) dL_historyAt_5 (fun E w9 h => ?_) (fun x w9 h => ?_) _ rfl
  · obtain ⟨u, hx, hcv, rfl⟩ := h
    rcases hpx E u hx with rfl | rfl
    · refine v_catch (name := eIO) C htb [] ⟨0, 10, 13, 13⟩ [⟨0, 10, 17, 51⟩] rfl (fun z hz => by cases hz) rfl (by decide) clk_RL_13 cst_eIO (fun q9 => ?_)
      refine v_astore C [(4, .ref q9), (0, .ref x0), (1, .int a0), (2, .int a1), (3, .ref ao)] (by decide) rfl dL_historyAt_13 ?_
      refine v_iconst C 1 (by decide) dL_historyAt_15 ?_
      exact v_iret C hRT (Nat.le_of_ble_eq_true rfl) (Nat.le_of_ble_eq_true rfl) dL_historyAt_16 ⟨_, rfl, Or.inr ⟨0, _, rfl, rfl, u, hx, hcv, rfl⟩⟩
    · refine v_catch (name := eNE) C htb [⟨0, 10, 13, 13⟩] ⟨0, 10, 17, 51⟩ [] rfl (fun z hz => by rcases List.mem_cons.mp hz with rfl | hz; exact ⟨by decide, _, clk_RL_13, List.mem_of_getElem? (i := 3) rfl⟩; cases hz) rfl (by decide) clk_RL_51 cst_eNE (fun q9 => ?_)
      refine v_astore C [(4, .ref q9), (0, .ref x0), (1, .int a0), (2, .int a1), (3, .ref ao)] (by decide) rfl dL_historyAt_17 ?_
      refine v_iconst C 2 (by decide) dL_historyAt_19 ?_
      exact v_iret C hRT (Nat.le_of_ble_eq_true rfl) (Nat.le_of_ble_eq_true rfl) dL_historyAt_20 ⟨_, rfl, Or.inr ⟨1, _, rfl, rfl, u, hx, hcv, rfl⟩⟩
  · obtain ⟨u, hf, hcv, rfl⟩ := h
    have hz9 := fr_out (w := w) h1 (hcv ao (by rw [hao]; decide) h1)
    have hao2 : hK (fr S1 u w) ao = 12 := hz9.1.trans hao
    have hin2 : vp_in 0 (hN (fr S1 u w) ao) := by rw [hz9.2.1, hn]; unfold vp_in; decide
    refine v_i2l C dL_historyAt_8 ?_
    refine v_lastj C 0 rfl hao2 hin2 dL_historyAt_9 ?_
    refine v_goto C 21 (by decide) dL_historyAt_10 ?_
    refine v_iconst C 0 (by decide) dL_historyAt_21 ?_
    exact v_iret C hRT (Nat.le_of_ble_eq_true rfl) (Nat.le_of_ble_eq_true rfl) dL_historyAt_22 ⟨_, rfl, Or.inl ⟨rfl, x, u, hf, hcv, rfl⟩⟩
set_option maxRecDepth 100000 in
set_option maxHeartbeats 4000000 in
theorem c_L_quality (l : Launch) (w S1 : HS) (i1 : Inn S1 w) (x0 ao : Nat) (a0 : Int32) (f : Int32 → HS → Prop) (px : String → HS → Prop) (hC : cX l yX4_quality cX4_quality 4 (Option.some Jvm.ClassFile.FieldType.int) 8 [.ref x0, .int a0] S1 (pI f) px 1 6) (hpx : ∀ E u, px E u → E = eIO) (hx0 : hK w x0 = 5) (hao : hK w ao = 12) (hn : hN w ao = 1) (h1 : hK S1 ao = 0) : cH l yL_quality cL_quality 4 [(0, 9, 12, 13)] 9 [.ref x0, .int a0, .ref ao] w (pI (hP f px [eIO] S1 w (fun z x => tJ z ao 0 x.toInt64))) 1 6 := by
  refine cH_intro (by decide +kernel) (Nat.le_of_ble_eq_true rfl) ?_
  intro pP eE sS mM aA bB tT cC G A C hRT htb
  refine V.lvs (lv2 := [(0, .ref x0), (1, .int a0), (2, .ref ao)]) rfl ?_
  refine v_aload_n C 2 rfl rfl dL_quality_0 ?_
  refine v_iconst C 0 (by decide) dL_quality_1 ?_
  refine v_aload_n C 0 rfl rfl dL_quality_2 ?_
  refine v_iload_n C 1 rfl rfl dL_quality_3 ?_
  refine v_xcallVi C (st := [.int 0, .ref ao]) [.int a0] (hC.frmI i1) ml_RL_90 mi_yX4_quality hx0 (by decide) (by decide +kernel) rfl (Nat.le_of_ble_eq_true rfl) (Nat.le_of_ble_eq_true rfl) (Nat.le_of_ble_eq_true rfl) (Nat.le_of_ble_eq_true rfl) (Nat.le_of_ble_eq_true rfl) dL_quality_4 (fun E w9 h => ?_) (fun x w9 h => ?_) _ rfl
  · obtain ⟨u, hx, hcv, rfl⟩ := h
    rcases hpx E u hx with rfl
    · refine v_catch (name := eIO) C htb [] ⟨0, 9, 12, 13⟩ [] rfl (fun z hz => by cases hz) rfl (by decide) clk_RL_13 cst_eIO (fun q9 => ?_)
      refine v_astore_n C [(3, .ref q9), (0, .ref x0), (1, .int a0), (2, .ref ao)] (by decide) rfl rfl dL_quality_12 ?_
      refine v_iconst C 1 (by decide) dL_quality_13 ?_
      exact v_iret C hRT (Nat.le_of_ble_eq_true rfl) (Nat.le_of_ble_eq_true rfl) dL_quality_14 ⟨_, rfl, Or.inr ⟨0, _, rfl, rfl, u, hx, hcv, rfl⟩⟩
  · obtain ⟨u, hf, hcv, rfl⟩ := h
    have hz9 := fr_out (w := w) h1 (hcv ao (by rw [hao]; decide) h1)
    have hao2 : hK (fr S1 u w) ao = 12 := hz9.1.trans hao
    have hin2 : vp_in 0 (hN (fr S1 u w) ao) := by rw [hz9.2.1, hn]; unfold vp_in; decide
    refine v_i2l C dL_quality_7 ?_
    refine v_lastj C 0 rfl hao2 hin2 dL_quality_8 ?_
    refine v_goto C 15 (by decide) dL_quality_9 ?_
    refine v_iconst C 0 (by decide) dL_quality_15 ?_
    exact v_iret C hRT (Nat.le_of_ble_eq_true rfl) (Nat.le_of_ble_eq_true rfl) dL_quality_16 ⟨_, rfl, Or.inl ⟨rfl, x, u, hf, hcv, rfl⟩⟩
set_option maxRecDepth 100000 in
set_option maxHeartbeats 4000000 in
theorem c_L_countOf (l : Launch) (w S1 : HS) (i1 : Inn S1 w) (x0 ao : Nat) (a0 : Int32) (f : Int32 → HS → Prop) (px : String → HS → Prop) (hC : cX l yX4_countOf cX4_countOf 2 (Option.some Jvm.ClassFile.FieldType.int) 10 [.ref x0, .int a0] S1 (pI f) px 1 6) (hpx : ∀ E u, px E u → E = eIA) (hx0 : hK w x0 = 5) (hao : hK w ao = 12) (hn : hN w ao = 1) (h1 : hK S1 ao = 0) : cH l yL_countOf cL_countOf 4 [(0, 9, 12, 15)] 11 [.ref x0, .int a0, .ref ao] w (pI (hP f px [eIA] S1 w (fun z x => tJ z ao 0 x.toInt64))) 1 6 := by
  refine cH_intro (by decide +kernel) (Nat.le_of_ble_eq_true rfl) ?_
  intro pP eE sS mM aA bB tT cC G A C hRT htb
  refine V.lvs (lv2 := [(0, .ref x0), (1, .int a0), (2, .ref ao)]) rfl ?_
  refine v_aload_n C 2 rfl rfl dL_countOf_0 ?_
  refine v_iconst C 0 (by decide) dL_countOf_1 ?_
  refine v_aload_n C 0 rfl rfl dL_countOf_2 ?_
  refine v_iload_n C 1 rfl rfl dL_countOf_3 ?_
  refine v_xcallVi C (st := [.int 0, .ref ao]) [.int a0] (hC.frmI i1) ml_RL_93 mi_yX4_countOf hx0 (by decide) (by decide +kernel) rfl (Nat.le_of_ble_eq_true rfl) (Nat.le_of_ble_eq_true rfl) (Nat.le_of_ble_eq_true rfl) (Nat.le_of_ble_eq_true rfl) (Nat.le_of_ble_eq_true rfl) dL_countOf_4 (fun E w9 h => ?_) (fun x w9 h => ?_) _ rfl
  · obtain ⟨u, hx, hcv, rfl⟩ := h
    rcases hpx E u hx with rfl
    · refine v_catch (name := eIA) C htb [] ⟨0, 9, 12, 15⟩ [] rfl (fun z hz => by cases hz) rfl (by decide) clk_RL_15 cst_eIA (fun q9 => ?_)
      refine v_astore_n C [(3, .ref q9), (0, .ref x0), (1, .int a0), (2, .ref ao)] (by decide) rfl rfl dL_countOf_12 ?_
      refine v_iconst C 1 (by decide) dL_countOf_13 ?_
      exact v_iret C hRT (Nat.le_of_ble_eq_true rfl) (Nat.le_of_ble_eq_true rfl) dL_countOf_14 ⟨_, rfl, Or.inr ⟨0, _, rfl, rfl, u, hx, hcv, rfl⟩⟩
  · obtain ⟨u, hf, hcv, rfl⟩ := h
    have hz9 := fr_out (w := w) h1 (hcv ao (by rw [hao]; decide) h1)
    have hao2 : hK (fr S1 u w) ao = 12 := hz9.1.trans hao
    have hin2 : vp_in 0 (hN (fr S1 u w) ao) := by rw [hz9.2.1, hn]; unfold vp_in; decide
    refine v_i2l C dL_countOf_7 ?_
    refine v_lastj C 0 rfl hao2 hin2 dL_countOf_8 ?_
    refine v_goto C 15 (by decide) dL_countOf_9 ?_
    refine v_iconst C 0 (by decide) dL_countOf_15 ?_
    exact v_iret C hRT (Nat.le_of_ble_eq_true rfl) (Nat.le_of_ble_eq_true rfl) dL_countOf_16 ⟨_, rfl, Or.inl ⟨rfl, x, u, hf, hcv, rfl⟩⟩
set_option maxRecDepth 100000 in
set_option maxHeartbeats 4000000 in
theorem c_L_nearest (l : Launch) (w S1 : HS) (i1 : Inn S1 w) (x0 ao : Nat) (a0 a1 a2 : Int32) (f : Int32 → HS → Prop) (px : String → HS → Prop) (hC : cX l yX4_nearest cX4_nearest 11 (Option.some Jvm.ClassFile.FieldType.int) 12 [.ref x0, .int a0, .int a1, .int a2] S1 (pI f) px 2 12) (hpx : ∀ E u, px E u → E = eIA ∨ E = eNE) (hx0 : hK w x0 = 5) (hao : hK w ao = 12) (hn : hN w ao = 1) (h1 : hK S1 ao = 0) : cH l yL_nearest cL_nearest 6 [(0, 12, 15, 15), (0, 12, 19, 51)] 13 [.ref x0, .int a0, .int a1, .int a2, .ref ao] w (pI (hP f px [eIA, eNE] S1 w (fun z x => tJ z ao 0 x.toInt64))) 2 12 := by
  refine cH_intro (by decide +kernel) (Nat.le_of_ble_eq_true rfl) ?_
  intro pP eE sS mM aA bB tT cC G A C hRT htb
  refine V.lvs (lv2 := [(0, .ref x0), (1, .int a0), (2, .int a1), (3, .int a2), (4, .ref ao)]) rfl ?_
  refine v_aload C 4 rfl dL_nearest_0 ?_
  refine v_iconst C 0 (by decide) dL_nearest_2 ?_
  refine v_aload_n C 0 rfl rfl dL_nearest_3 ?_
  refine v_iload_n C 1 rfl rfl dL_nearest_4 ?_
  refine v_iload_n C 2 rfl rfl dL_nearest_5 ?_
  refine v_iload_n C 3 rfl rfl dL_nearest_6 ?_
  refine v_xcallVi C (st := [.int 0, .ref ao]) [.int a0, .int a1, .int a2] (hC.frmI i1) ml_RL_97 mi_yX4_nearest hx0 (by decide) (by decide +kernel) rfl (Nat.le_of_ble_eq_true rfl) (Nat.le_of_ble_eq_true rfl) (Nat.le_of_ble_eq_true rfl) (Nat.le_of_ble_eq_true rfl) (Nat.le_of_ble_eq_true rfl) dL_nearest_7 (fun E w9 h => ?_) (fun x w9 h => ?_) _ rfl
  · obtain ⟨u, hx, hcv, rfl⟩ := h
    rcases hpx E u hx with rfl | rfl
    · refine v_catch (name := eIA) C htb [] ⟨0, 12, 15, 15⟩ [⟨0, 12, 19, 51⟩] rfl (fun z hz => by cases hz) rfl (by decide) clk_RL_15 cst_eIA (fun q9 => ?_)
      refine v_astore C [(5, .ref q9), (0, .ref x0), (1, .int a0), (2, .int a1), (3, .int a2), (4, .ref ao)] (by decide) rfl dL_nearest_15 ?_
      refine v_iconst C 1 (by decide) dL_nearest_17 ?_
      exact v_iret C hRT (Nat.le_of_ble_eq_true rfl) (Nat.le_of_ble_eq_true rfl) dL_nearest_18 ⟨_, rfl, Or.inr ⟨0, _, rfl, rfl, u, hx, hcv, rfl⟩⟩
    · refine v_catch (name := eNE) C htb [⟨0, 12, 15, 15⟩] ⟨0, 12, 19, 51⟩ [] rfl (fun z hz => by rcases List.mem_cons.mp hz with rfl | hz; exact ⟨by decide, _, clk_RL_15, List.mem_of_getElem? (i := 4) rfl⟩; cases hz) rfl (by decide) clk_RL_51 cst_eNE (fun q9 => ?_)
      refine v_astore C [(5, .ref q9), (0, .ref x0), (1, .int a0), (2, .int a1), (3, .int a2), (4, .ref ao)] (by decide) rfl dL_nearest_19 ?_
      refine v_iconst C 2 (by decide) dL_nearest_21 ?_
      exact v_iret C hRT (Nat.le_of_ble_eq_true rfl) (Nat.le_of_ble_eq_true rfl) dL_nearest_22 ⟨_, rfl, Or.inr ⟨1, _, rfl, rfl, u, hx, hcv, rfl⟩⟩
  · obtain ⟨u, hf, hcv, rfl⟩ := h
    have hz9 := fr_out (w := w) h1 (hcv ao (by rw [hao]; decide) h1)
    have hao2 : hK (fr S1 u w) ao = 12 := hz9.1.trans hao
    have hin2 : vp_in 0 (hN (fr S1 u w) ao) := by rw [hz9.2.1, hn]; unfold vp_in; decide
    refine v_i2l C dL_nearest_10 ?_
    refine v_lastj C 0 rfl hao2 hin2 dL_nearest_11 ?_
    refine v_goto C 23 (by decide) dL_nearest_12 ?_
    refine v_iconst C 0 (by decide) dL_nearest_23 ?_
    exact v_iret C hRT (Nat.le_of_ble_eq_true rfl) (Nat.le_of_ble_eq_true rfl) dL_nearest_24 ⟨_, rfl, Or.inl ⟨rfl, x, u, hf, hcv, rfl⟩⟩
set_option maxRecDepth 100000 in
set_option maxHeartbeats 4000000 in
theorem c_L_takenShare (l : Launch) (w S1 : HS) (i1 : Inn S1 w) (x0 ao : Nat) (f : UInt32 → HS → Prop) (px : String → HS → Prop) (hC : cX l yX4_takenShare cX4_takenShare 1 (Option.some Jvm.ClassFile.FieldType.float) 8 [.ref x0] S1 (pF f) px 1 6) (hpx : ∀ E u, px E u → E = eAR) (hfn : ∀ x u, f x u → vf_n64 (FP.f2d x)) (hx0 : hK w x0 = 5) (hao : hK w ao = 18) (hn : hN w ao = 1) (h1 : hK S1 ao = 0) : cH l yL_takenShare cL_takenShare 3 [(0, 8, 11, 104)] 9 [.ref x0, .ref ao] w (pI (hP f px [eAR] S1 w (fun z x => tD z ao 0 (FP.f2d x)))) 1 6 := by
  refine cH_intro (by decide +kernel) (Nat.le_of_ble_eq_true rfl) ?_
  intro pP eE sS mM aA bB tT cC G A C hRT htb
  refine V.lvs (lv2 := [(0, .ref x0), (1, .ref ao)]) rfl ?_
  refine v_aload_n C 1 rfl rfl dL_takenShare_0 ?_
  refine v_iconst C 0 (by decide) dL_takenShare_1 ?_
  refine v_aload_n C 0 rfl rfl dL_takenShare_2 ?_
  refine v_xcallVf C (st := [.int 0, .ref ao]) [] (hC.frmF i1) ml_RL_100 mi_yX4_takenShare hx0 (by decide) (by decide +kernel) rfl (Nat.le_of_ble_eq_true rfl) (Nat.le_of_ble_eq_true rfl) (Nat.le_of_ble_eq_true rfl) (Nat.le_of_ble_eq_true rfl) (Nat.le_of_ble_eq_true rfl) dL_takenShare_3 (fun E w9 h => ?_) (fun x w9 h => ?_) _ rfl
  · obtain ⟨u, hx, hcv, rfl⟩ := h
    rcases hpx E u hx with rfl
    · refine v_catch (name := eAR) C htb [] ⟨0, 8, 11, 104⟩ [] rfl (fun z hz => by cases hz) rfl (by decide) clk_RL_104 cst_eAR (fun q9 => ?_)
      refine v_astore_n C [(2, .ref q9), (0, .ref x0), (1, .ref ao)] (by decide) rfl rfl dL_takenShare_11 ?_
      refine v_iconst C 1 (by decide) dL_takenShare_12 ?_
      exact v_iret C hRT (Nat.le_of_ble_eq_true rfl) (Nat.le_of_ble_eq_true rfl) dL_takenShare_13 ⟨_, rfl, Or.inr ⟨0, _, rfl, rfl, u, hx, hcv, rfl⟩⟩
  · obtain ⟨u, hf, hcv, rfl⟩ := h
    have hz9 := fr_out (w := w) h1 (hcv ao (by rw [hao]; decide) h1)
    have hao2 : hK (fr S1 u w) ao = 18 := hz9.1.trans hao
    have hin2 : vp_in 0 (hN (fr S1 u w) ao) := by rw [hz9.2.1, hn]; unfold vp_in; decide
    refine v_f2d C (hfn x u hf) dL_takenShare_6 ?_
    refine v_dastj C 0 rfl hao2 hin2 dL_takenShare_7 ?_
    refine v_goto C 14 (by decide) dL_takenShare_8 ?_
    refine v_iconst C 0 (by decide) dL_takenShare_14 ?_
    exact v_iret C hRT (Nat.le_of_ble_eq_true rfl) (Nat.le_of_ble_eq_true rfl) dL_takenShare_15 ⟨_, rfl, Or.inl ⟨rfl, x, u, hf, hcv, rfl⟩⟩
set_option maxRecDepth 100000 in
set_option maxHeartbeats 4000000 in
theorem c_L_meanHits (l : Launch) (w S1 : HS) (i1 : Inn S1 w) (x0 ao : Nat) (f : UInt64 → HS → Prop) (px : String → HS → Prop) (hC : cX l yX4_meanHits cX4_meanHits 5 (Option.some Jvm.ClassFile.FieldType.double) 8 [.ref x0] S1 (pD f) px 1 6) (hpx : ∀ E u, px E u → E = eAR) (hx0 : hK w x0 = 5) (hao : hK w ao = 18) (hn : hN w ao = 1) (h1 : hK S1 ao = 0) : cH l yL_meanHits cL_meanHits 3 [(0, 7, 10, 104)] 9 [.ref x0, .ref ao] w (pI (hP f px [eAR] S1 w (fun z x => tD z ao 0 x))) 1 6 := by
  refine cH_intro (by decide +kernel) (Nat.le_of_ble_eq_true rfl) ?_
  intro pP eE sS mM aA bB tT cC G A C hRT htb
  refine V.lvs (lv2 := [(0, .ref x0), (1, .ref ao)]) rfl ?_
  refine v_aload_n C 1 rfl rfl dL_meanHits_0 ?_
  refine v_iconst C 0 (by decide) dL_meanHits_1 ?_
  refine v_aload_n C 0 rfl rfl dL_meanHits_2 ?_
  refine v_xcallVd C (st := [.int 0, .ref ao]) [] (hC.frmD i1) ml_RL_106 mi_yX4_meanHits hx0 (by decide) (by decide +kernel) rfl (Nat.le_of_ble_eq_true rfl) (Nat.le_of_ble_eq_true rfl) (Nat.le_of_ble_eq_true rfl) (Nat.le_of_ble_eq_true rfl) (Nat.le_of_ble_eq_true rfl) dL_meanHits_3 (fun E w9 h => ?_) (fun x w9 h => ?_) _ rfl
  · obtain ⟨u, hx, hcv, rfl⟩ := h
    rcases hpx E u hx with rfl
    · refine v_catch (name := eAR) C htb [] ⟨0, 7, 10, 104⟩ [] rfl (fun z hz => by cases hz) rfl (by decide) clk_RL_104 cst_eAR (fun q9 => ?_)
      refine v_astore_n C [(2, .ref q9), (0, .ref x0), (1, .ref ao)] (by decide) rfl rfl dL_meanHits_10 ?_
      refine v_iconst C 1 (by decide) dL_meanHits_11 ?_
      exact v_iret C hRT (Nat.le_of_ble_eq_true rfl) (Nat.le_of_ble_eq_true rfl) dL_meanHits_12 ⟨_, rfl, Or.inr ⟨0, _, rfl, rfl, u, hx, hcv, rfl⟩⟩
  · obtain ⟨u, hf, hcv, rfl⟩ := h
    have hz9 := fr_out (w := w) h1 (hcv ao (by rw [hao]; decide) h1)
    have hao2 : hK (fr S1 u w) ao = 18 := hz9.1.trans hao
    have hin2 : vp_in 0 (hN (fr S1 u w) ao) := by rw [hz9.2.1, hn]; unfold vp_in; decide
    refine v_dastj C 0 rfl hao2 hin2 dL_meanHits_6 ?_
    refine v_goto C 13 (by decide) dL_meanHits_7 ?_
    refine v_iconst C 0 (by decide) dL_meanHits_13 ?_
    exact v_iret C hRT (Nat.le_of_ble_eq_true rfl) (Nat.le_of_ble_eq_true rfl) dL_meanHits_14 ⟨_, rfl, Or.inl ⟨rfl, x, u, hf, hcv, rfl⟩⟩
