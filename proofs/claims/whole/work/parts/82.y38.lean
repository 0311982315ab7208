/-- what a call may cost -/
def LB (q q' : AS) (B B' k n k' n' : Nat) : Prop := (B' = B ∧ k' ≤ k + 16 ∧ n' ≤ n + 2100) ∨ (B' = B + 1 ∧ bF q = 1 ∧ bF q' = 0 ∧ k' ≤ k + 52 ∧ n' ≤ n + 23300)
set_option maxRecDepth 100000 in
set_option maxHeartbeats 4000000 in
theorem lw_addPair {l : Launch} {pP : Program} {eE : Env} {sS : State} {mM : MethodId} {aA : Array Value} {bB : List Frame} {tT : Method} {cC : Code} {G : GT} {A : Nat → Prop} {Q : State → Prop} (hlf : l.stackTraces = false) (C : Cx pP l eE room_1 sS mM aA bB tT cC cL_law 9 RL G A) {b L : Nat} {xs : Nat → Int32} (hX : va_X b L xs sS sS.heap) (hbl : b < sS.heap.size) (hbA : ¬ A b) (iv : Int32) (hin : ∀ z : Int32, z = 1 ∨ z = 2 ∨ z = 3 ∨ z = 4 → vp_in (iv + z) L) (w S1 S2 : HS) (ad : AD) (am : AM) (q : AS) (ao dx : Nat) (hJ : LJ w S1 S2 ad am q q ao dx) (B k n : Nat) (hI : INV q B) (hB : B ≤ 257) (hk : k + 1000 ≤ 603072) (hn : n + 30000 ≤ 7207018) (kk : ∀ (w' S1' S2' : HS) (ad' : AD) (am' : AM) (q' : AS) (B' k' n' : Nat), LJ w' S1' S2' ad' am' q' q' ao dx → ad' 0 0 = ad 0 0 → am' 0 = am 0 → INV q' B' → LB q q' B B' k n k' n' → V pP l eE room_1 sS mM aA bB tT cC 9 G A w' k' n' Q 1969 [(5, .int iv), (4, .ref dx), (3, .ref ao), (2, .ref (am 0)), (1, .ref (ad 0 0)), (0, .ref b)] []) : V pP l eE room_1 sS mM aA bB tT cC 9 G A w k n Q 196 [(5, .int iv), (4, .ref dx), (3, .ref ao), (2, .ref (am 0)), (1, .ref (ad 0 0)), (0, .ref b)] [] := by
  have h1 := hin 1 (by decide)
  obtain ⟨a1, e1⟩ : ∃ z, xs (iv + 1).toNatClampNeg = z := ⟨_, rfl⟩
  have h2 := hin 2 (by decide)
  obtain ⟨a2, e2⟩ : ∃ z, xs (iv + 2).toNatClampNeg = z := ⟨_, rfl⟩
  have h3 := hin 3 (by decide)
  obtain ⟨a3, e3⟩ : ∃ z, xs (iv + 3).toNatClampNeg = z := ⟨_, rfl⟩
  refine v_aload_n C 4 rfl rfl dL_law_196 ?_
  refine v_aload_n C 5 rfl rfl dL_law_197 ?_
  refine v_iload C 0 rfl dL_law_198 ?_
  refine v_iconst C 1 (by decide) dL_law_200 ?_
  refine v_iadd C dL_law_201 ?_
  refine v_sld C hX hbl hbA h1 e1 dL_law_202 ?_
  refine v_aload_n C 5 rfl rfl dL_law_203 ?_
  refine v_iload C 0 rfl dL_law_204 ?_
  refine v_iconst C 2 (by decide) dL_law_206 ?_
  refine v_iadd C dL_law_207 ?_
  refine v_sld C hX hbl hbA h2 e2 dL_law_208 ?_
  refine v_aload_n C 5 rfl rfl dL_law_209 ?_
  refine v_iload C 0 rfl dL_law_210 ?_
  refine v_iconst C 3 (by decide) dL_law_212 ?_
  refine v_iadd C dL_law_213 ?_
  refine v_sld C hX hbl hbA h3 e3 dL_law_214 ?_
  refine v_aload_n C 2 rfl rfl dL_law_215 ?_
  refine v_callSHi C (st := []) [.ref (ad 0 0), .int a1, .int a2, .int a3, .ref ao] (c_L_addPair l w S1 hJ.i1 (ad 0 0) ao a1 a2 a3 _ _ (c_X4_addPair l hlf S1 ad q hI.1 hJ.hA hJ.hV a1 a2 a3) (fun E u hx => hx.2.imp And.left And.left) hJ.kx hJ.rao.1 hJ.rao.2.1 hJ.rao.2.2.1) mlh_RL_114 rfl (Nat.le_of_ble_eq_true rfl) (Nat.le_of_ble_eq_true rfl) (Nat.le_of_ble_eq_true rfl) (by show _ + 3 ≤ 603072; omega) (by show _ + 18 ≤ 7207018; omega) dL_law_216 (fun r w1 h => ?_) _ rfl
  obtain ⟨q1, v, u1, ad1, hR1, hA1, hV1, hx1, hc1, hw1⟩ := kc_addPair hJ.hA hJ.hV a1 a2 a3 h
  have hJ1 : LJ (fr S1 u1 w) u1 S2 ad1 am q1 q ao dx := hJ.cls hA1 hV1 hc1
  have hJ2 : LJ w1 u1 S2 ad1 am q1 q ao dx := by
    rcases hw1 with ⟨-, rfl⟩ | ⟨-, rfl⟩
    · exact hJ1.rowJ
    · exact hJ1
  have hr1 : r = 0 → aJ w1 ao 0 = v.toInt64 := fun z => by
    rcases hw1 with ⟨-, rfl⟩ | ⟨h9, -⟩
    · exact (aJ_tJ1 0).trans (if_pos rfl)
    · exact absurd z h9
  refine v_istore C [(6, .int r), (5, .int iv), (4, .ref dx), (3, .ref ao), (2, .ref (am 0)), (1, .ref (ad 0 0)), (0, .ref b)] (by decide) rfl dL_law_219 ?_
  refine v_aload_n C 4 rfl rfl dL_law_221 ?_
  refine v_aload_n C 6 rfl rfl dL_law_222 ?_
  refine v_iload C 1 rfl dL_law_223 ?_
  refine v_iconst C 1 (by decide) dL_law_225 ?_
  refine v_iadd C dL_law_226 ?_
  refine v_sld C hX hbl hbA h1 e1 dL_law_227 ?_
  refine v_aload_n C 6 rfl rfl dL_law_228 ?_
  refine v_iload C 1 rfl dL_law_229 ?_
  refine v_iconst C 2 (by decide) dL_law_231 ?_
  refine v_iadd C dL_law_232 ?_
  refine v_sld C hX hbl hbA h2 e2 dL_law_233 ?_
  refine v_aload_n C 6 rfl rfl dL_law_234 ?_
  refine v_iload C 1 rfl dL_law_235 ?_
  refine v_iconst C 3 (by decide) dL_law_237 ?_
  refine v_iadd C dL_law_238 ?_
  refine v_sld C hX hbl hbA h3 e3 dL_law_239 ?_
  refine v_callVi C (st := []) [.int a1, .int a2, .int a3] ((c_X5_addPair l S2 am q hI.1 hJ2.nA hJ2.nV a1 a2 a3).frmI hJ2.i2) ml_RL_119 mi_yX5_addPair hJ2.km (by decide) (by decide +kernel) rfl (Nat.le_of_ble_eq_true rfl) (Nat.le_of_ble_eq_true rfl) (Nat.le_of_ble_eq_true rfl) (by show _ + 0 ≤ 603072; omega) (by show _ + 0 ≤ 7207018; omega) dL_law_240 (fun v2 w2 h => ?_) _ rfl
  obtain ⟨u2, hf2, hc2, rfl⟩ := h
  obtain ⟨q2, am2, hR2, hA2, hV2, hx2⟩ := km_addPair hJ2.nA hJ2.nV a1 a2 a3 hf2
  obtain ⟨hκ, hq, hv⟩ := kf_addPair hI.1 a1 a2 a3 hR1 hR2
  have hI2 := ki_addPair hI a1 a2 a3 hR1
  subst hq
  have hJ3 : LJ (fr S2 u2 w1) u1 u2 ad1 am2 q1 q1 ao dx := hJ2.mod hA2 hV2 hc2
  have hr3 : r = 0 → aJ (fr S2 u2 w1) ao 0 = v2.toInt64 := fun z => by
    rw [hJ2.modJ hc2, hr1 z, hv z]
  refine v_istore C [(7, .int v2), (6, .int r), (5, .int iv), (4, .ref dx), (3, .ref ao), (2, .ref (am 0)), (1, .ref (ad 0 0)), (0, .ref b)] (by decide) rfl dL_law_243 ?_
  refine v_aload_n C 5 rfl rfl dL_law_245 ?_
  refine v_callVi C (st := []) [] ((thr_of l hA2 hx2).frmI hJ3.i2) ml_RL_120 mi_yX5_thrown (hx2 ▸ hJ3.km) (by decide) (by decide +kernel) rfl (Nat.le_of_ble_eq_true rfl) (Nat.le_of_ble_eq_true rfl) (Nat.le_of_ble_eq_true rfl) (by show _ + 0 ≤ 603072; omega) (by show _ + 0 ≤ 7207018; omega) dL_law_246 (fun r3 w3 h => ?_) _ rfl
  obtain ⟨u3, ⟨hr4, rfl⟩, hc3, rfl⟩ := h
  rw [fr_self hJ3.i2]
  refine v_iload C 1 rfl dL_law_249 ?_
  refine v_icmp_eq C 256 (by decide) dL_law_251 (fun c251 => ?_) (fun q => ((q (hr4.symm.trans hκ.symm) : False)).elim)
  refine v_iload C 1 rfl dL_law_256 ?_
  refine v_if_ne C 273 (by decide) dL_law_258 (fun hz => ?_) (fun hz => ?_)
  · refine v_goto C 1969 (by decide) dL_law_273 ?_
    exact V.sub [2, 3, 4, 5, 6, 7] rfl (kk _ _ _ ad1 am2 q1 _ _ _ hJ3 hx1 hx2 hI2 (Or.inl ⟨rfl, by omega, by omega⟩))
  · refine v_aload_n C 4 rfl rfl dL_law_261 ?_
    refine v_iconst C 0 (by decide) dL_law_262 ?_
    refine v_lald C v2.toInt64 hJ3.rao.1 (by rw [hJ3.rao.2.1]; unfold vp_in; decide) (hr3 hz) dL_law_263 ?_
    refine v_iload C 0 rfl dL_law_264 ?_
    refine v_i2l C dL_law_266 ?_
    refine v_lcmp C dL_law_267 ?_
    refine v_if_eq C 273 (by decide) dL_law_268 (fun c268 => ?_) (fun q => ((q (lg_cmp_rf _) : False)).elim)
    refine v_goto C 1969 (by decide) dL_law_273 ?_
    exact V.sub [2, 3, 4, 5, 6, 7] rfl (kk _ _ _ ad1 am2 q1 _ _ _ hJ3 hx1 hx2 hI2 (Or.inl ⟨rfl, by omega, by omega⟩))
set_option maxRecDepth 100000 in
set_option maxHeartbeats 4000000 in
theorem lw_forgetPairs {l : Launch} {pP : Program} {eE : Env} {sS : State} {mM : MethodId} {aA : Array Value} {bB : List Frame} {tT : Method} {cC : Code} {G : GT} {A : Nat → Prop} {Q : State → Prop} (hlf : l.stackTraces = false) (C : Cx pP l eE room_1 sS mM aA bB tT cC cL_law 9 RL G A) {b L : Nat} {xs : Nat → Int32} (hX : va_X b L xs sS sS.heap) (hbl : b < sS.heap.size) (hbA : ¬ A b) (iv : Int32) (hin : ∀ z : Int32, z = 1 ∨ z = 2 ∨ z = 3 ∨ z = 4 → vp_in (iv + z) L) (w S1 S2 : HS) (ad : AD) (am : AM) (q : AS) (ao dx : Nat) (hJ : LJ w S1 S2 ad am q q ao dx) (B k n : Nat) (hI : INV q B) (hB : B ≤ 257) (hk : k + 1000 ≤ 603072) (hn : n + 30000 ≤ 7207018) (kk : ∀ (w' S1' S2' : HS) (ad' : AD) (am' : AM) (q' : AS) (B' k' n' : Nat), LJ w' S1' S2' ad' am' q' q' ao dx → ad' 0 0 = ad 0 0 → am' 0 = am 0 → INV q' B' → LB q q' B B' k n k' n' → V pP l eE room_1 sS mM aA bB tT cC 9 G A w' k' n' Q 1969 [(5, .int iv), (4, .ref dx), (3, .ref ao), (2, .ref (am 0)), (1, .ref (ad 0 0)), (0, .ref b)] []) : V pP l eE room_1 sS mM aA bB tT cC 9 G A w k n Q 276 [(5, .int iv), (4, .ref dx), (3, .ref ao), (2, .ref (am 0)), (1, .ref (ad 0 0)), (0, .ref b)] [] := by
  have h1 := hin 1 (by decide)
  obtain ⟨a1, e1⟩ : ∃ z, xs (iv + 1).toNatClampNeg = z := ⟨_, rfl⟩
  refine v_aload_n C 4 rfl rfl dL_law_276 ?_
  refine v_aload_n C 5 rfl rfl dL_law_277 ?_
  refine v_iload C 0 rfl dL_law_278 ?_
  refine v_iconst C 1 (by decide) dL_law_280 ?_
  refine v_iadd C dL_law_281 ?_
  refine v_sld C hX hbl hbA h1 e1 dL_law_282 ?_
  refine v_aload_n C 2 rfl rfl dL_law_283 ?_
  refine v_callSHi C (st := []) [.ref (ad 0 0), .int a1, .ref ao] (c_L_forgetPairs l w S1 hJ.i1 (ad 0 0) ao a1 _ _ (c_X4_forgetPairs l hlf S1 ad q hI.1 hJ.hA hJ.hV a1) (fun E u hx => hx.1) hJ.kx hJ.rao.1 hJ.rao.2.1 hJ.rao.2.2.1) mlh_RL_123 rfl (Nat.le_of_ble_eq_true rfl) (Nat.le_of_ble_eq_true rfl) (Nat.le_of_ble_eq_true rfl) (by show _ + 1 ≤ 603072; omega) (by show _ + 6 ≤ 7207018; omega) dL_law_284 (fun r w1 h => ?_) _ rfl
  obtain ⟨q1, v, u1, ad1, hR1, hA1, hV1, hx1, hc1, hw1⟩ := kc_forgetPairs hJ.hA hJ.hV a1 h
  have hJ1 : LJ (fr S1 u1 w) u1 S2 ad1 am q1 q ao dx := hJ.cls hA1 hV1 hc1
  have hJ2 : LJ w1 u1 S2 ad1 am q1 q ao dx := by
    rcases hw1 with ⟨-, rfl⟩ | ⟨-, rfl⟩
    · exact hJ1.rowJ
    · exact hJ1
  have hr1 : r = 0 → aJ w1 ao 0 = v.toInt64 := fun z => by
    rcases hw1 with ⟨-, rfl⟩ | ⟨h9, -⟩
    · exact (aJ_tJ1 0).trans (if_pos rfl)
    · exact absurd z h9
  refine v_istore C [(6, .int r), (5, .int iv), (4, .ref dx), (3, .ref ao), (2, .ref (am 0)), (1, .ref (ad 0 0)), (0, .ref b)] (by decide) rfl dL_law_287 ?_
  refine v_aload_n C 4 rfl rfl dL_law_289 ?_
  refine v_aload_n C 6 rfl rfl dL_law_290 ?_
  refine v_iload C 1 rfl dL_law_291 ?_
  refine v_iconst C 1 (by decide) dL_law_293 ?_
  refine v_iadd C dL_law_294 ?_
  refine v_sld C hX hbl hbA h1 e1 dL_law_295 ?_
  refine v_callVi C (st := []) [.int a1] ((c_X5_forgetPairs l S2 am q hJ2.nA hJ2.nV a1).frmI hJ2.i2) ml_RL_126 mi_yX5_forgetPairs hJ2.km (by decide) (by decide +kernel) rfl (Nat.le_of_ble_eq_true rfl) (Nat.le_of_ble_eq_true rfl) (Nat.le_of_ble_eq_true rfl) (by show _ + 0 ≤ 603072; omega) (by show _ + 0 ≤ 7207018; omega) dL_law_296 (fun v2 w2 h => ?_) _ rfl
  obtain ⟨u2, hf2, hc2, rfl⟩ := h
  obtain ⟨q2, am2, hR2, hA2, hV2, hx2⟩ := km_forgetPairs hJ2.nA hJ2.nV a1 hf2
  obtain ⟨hκ, hq, hv⟩ := kf_forgetPairs hI.1 a1 hR1 hR2
  have hI2 := ki_forgetPairs hI a1 hR1
  subst hq
  have hJ3 : LJ (fr S2 u2 w1) u1 u2 ad1 am2 q1 q1 ao dx := hJ2.mod hA2 hV2 hc2
  have hr3 : r = 0 → aJ (fr S2 u2 w1) ao 0 = v2.toInt64 := fun z => by
    rw [hJ2.modJ hc2, hr1 z, hv z]
  refine v_istore C [(7, .int v2), (6, .int r), (5, .int iv), (4, .ref dx), (3, .ref ao), (2, .ref (am 0)), (1, .ref (ad 0 0)), (0, .ref b)] (by decide) rfl dL_law_299 ?_
  refine v_aload_n C 5 rfl rfl dL_law_301 ?_
  refine v_callVi C (st := []) [] ((thr_of l hA2 hx2).frmI hJ3.i2) ml_RL_120 mi_yX5_thrown (hx2 ▸ hJ3.km) (by decide) (by decide +kernel) rfl (Nat.le_of_ble_eq_true rfl) (Nat.le_of_ble_eq_true rfl) (Nat.le_of_ble_eq_true rfl) (by show _ + 0 ≤ 603072; omega) (by show _ + 0 ≤ 7207018; omega) dL_law_302 (fun r3 w3 h => ?_) _ rfl
  obtain ⟨u3, ⟨hr4, rfl⟩, hc3, rfl⟩ := h
  rw [fr_self hJ3.i2]
  refine v_iload C 1 rfl dL_law_305 ?_
  refine v_icmp_eq C 312 (by decide) dL_law_307 (fun c307 => ?_) (fun q => ((q (hr4.symm.trans hκ.symm) : False)).elim)
  refine v_iload C 1 rfl dL_law_312 ?_
  refine v_if_ne C 329 (by decide) dL_law_314 (fun hz => ?_) (fun hz => ?_)
  · refine v_goto C 1969 (by decide) dL_law_329 ?_
    exact V.sub [2, 3, 4, 5, 6, 7] rfl (kk _ _ _ ad1 am2 q1 _ _ _ hJ3 hx1 hx2 hI2 (Or.inl ⟨rfl, by omega, by omega⟩))
  · refine v_aload_n C 4 rfl rfl dL_law_317 ?_
    refine v_iconst C 0 (by decide) dL_law_318 ?_
    refine v_lald C v2.toInt64 hJ3.rao.1 (by rw [hJ3.rao.2.1]; unfold vp_in; decide) (hr3 hz) dL_law_319 ?_
    refine v_iload C 0 rfl dL_law_320 ?_
    refine v_i2l C dL_law_322 ?_
    refine v_lcmp C dL_law_323 ?_
    refine v_if_eq C 329 (by decide) dL_law_324 (fun c324 => ?_) (fun q => ((q (lg_cmp_rf _) : False)).elim)
    refine v_goto C 1969 (by decide) dL_law_329 ?_
    exact V.sub [2, 3, 4, 5, 6, 7] rfl (kk _ _ _ ad1 am2 q1 _ _ _ hJ3 hx1 hx2 hI2 (Or.inl ⟨rfl, by omega, by omega⟩))
set_option maxRecDepth 100000 in
set_option maxHeartbeats 4000000 in
theorem lw_correctedTime {l : Launch} {pP : Program} {eE : Env} {sS : State} {mM : MethodId} {aA : Array Value} {bB : List Frame} {tT : Method} {cC : Code} {G : GT} {A : Nat → Prop} {Q : State → Prop} (hlf : l.stackTraces = false) (C : Cx pP l eE room_1 sS mM aA bB tT cC cL_law 9 RL G A) {b L : Nat} {xs : Nat → Int32} (hX : va_X b L xs sS sS.heap) (hbl : b < sS.heap.size) (hbA : ¬ A b) (iv : Int32) (hin : ∀ z : Int32, z = 1 ∨ z = 2 ∨ z = 3 ∨ z = 4 → vp_in (iv + z) L) (w S1 S2 : HS) (ad : AD) (am : AM) (q : AS) (ao dx : Nat) (hJ : LJ w S1 S2 ad am q q ao dx) (B k n : Nat) (hI : INV q B) (hB : B ≤ 257) (hk : k + 1000 ≤ 603072) (hn : n + 30000 ≤ 7207018) (kk : ∀ (w' S1' S2' : HS) (ad' : AD) (am' : AM) (q' : AS) (B' k' n' : Nat), LJ w' S1' S2' ad' am' q' q' ao dx → ad' 0 0 = ad 0 0 → am' 0 = am 0 → INV q' B' → LB q q' B B' k n k' n' → V pP l eE room_1 sS mM aA bB tT cC 9 G A w' k' n' Q 1969 [(5, .int iv), (4, .ref dx), (3, .ref ao), (2, .ref (am 0)), (1, .ref (ad 0 0)), (0, .ref b)] []) : V pP l eE room_1 sS mM aA bB tT cC 9 G A w k n Q 332 [(5, .int iv), (4, .ref dx), (3, .ref ao), (2, .ref (am 0)), (1, .ref (ad 0 0)), (0, .ref b)] [] := by
  have h1 := hin 1 (by decide)
  obtain ⟨a1, e1⟩ : ∃ z, xs (iv + 1).toNatClampNeg = z := ⟨_, rfl⟩
  have h2 := hin 2 (by decide)
  obtain ⟨a2, e2⟩ : ∃ z, xs (iv + 2).toNatClampNeg = z := ⟨_, rfl⟩
  refine v_aload_n C 4 rfl rfl dL_law_332 ?_
  refine v_aload_n C 5 rfl rfl dL_law_333 ?_
  refine v_iload C 0 rfl dL_law_334 ?_
  refine v_iconst C 1 (by decide) dL_law_336 ?_
  refine v_iadd C dL_law_337 ?_
  refine v_sld C hX hbl hbA h1 e1 dL_law_338 ?_
  refine v_aload_n C 5 rfl rfl dL_law_339 ?_
  refine v_iload C 0 rfl dL_law_340 ?_
  refine v_iconst C 2 (by decide) dL_law_342 ?_
  refine v_iadd C dL_law_343 ?_
  refine v_sld C hX hbl hbA h2 e2 dL_law_344 ?_
  refine v_aload_n C 2 rfl rfl dL_law_345 ?_
  refine v_callSHi C (st := []) [.ref (ad 0 0), .int a1, .int a2, .ref ao] (c_L_correctedTime l w S1 hJ.i1 (ad 0 0) ao a1 a2 _ _ (c_X4_correctedTime l hlf S1 ad q hI.1 hJ.hA hJ.hV a1 a2) (fun E u hx => hx.2.imp And.left And.left) hJ.kx hJ.rao.1 hJ.rao.2.1 hJ.rao.2.2.1) mlh_RL_127 rfl (Nat.le_of_ble_eq_true rfl) (Nat.le_of_ble_eq_true rfl) (Nat.le_of_ble_eq_true rfl) (by show _ + 2 ≤ 603072; omega) (by show _ + 12 ≤ 7207018; omega) dL_law_346 (fun r w1 h => ?_) _ rfl
  obtain ⟨q1, v, u1, ad1, hR1, hA1, hV1, hx1, hc1, hw1⟩ := kc_correctedTime hJ.hA hJ.hV a1 a2 h
  have hJ1 : LJ (fr S1 u1 w) u1 S2 ad1 am q1 q ao dx := hJ.cls hA1 hV1 hc1
  have hJ2 : LJ w1 u1 S2 ad1 am q1 q ao dx := by
    rcases hw1 with ⟨-, rfl⟩ | ⟨-, rfl⟩
    · exact hJ1.rowJ
    · exact hJ1
  have hr1 : r = 0 → aJ w1 ao 0 = v.toInt64 := fun z => by
    rcases hw1 with ⟨-, rfl⟩ | ⟨h9, -⟩
    · exact (aJ_tJ1 0).trans (if_pos rfl)
    · exact absurd z h9
  refine v_istore C [(6, .int r), (5, .int iv), (4, .ref dx), (3, .ref ao), (2, .ref (am 0)), (1, .ref (ad 0 0)), (0, .ref b)] (by decide) rfl dL_law_349 ?_
  refine v_aload_n C 4 rfl rfl dL_law_351 ?_
  refine v_aload_n C 6 rfl rfl dL_law_352 ?_
  refine v_iload C 1 rfl dL_law_353 ?_
  refine v_iconst C 1 (by decide) dL_law_355 ?_
  refine v_iadd C dL_law_356 ?_
  refine v_sld C hX hbl hbA h1 e1 dL_law_357 ?_
  refine v_aload_n C 6 rfl rfl dL_law_358 ?_
  refine v_iload C 1 rfl dL_law_359 ?_
  refine v_iconst C 2 (by decide) dL_law_361 ?_
  refine v_iadd C dL_law_362 ?_
  refine v_sld C hX hbl hbA h2 e2 dL_law_363 ?_
  refine v_callVi C (st := []) [.int a1, .int a2] ((c_X5_correctedTime l S2 am q hI.1 hJ2.nA hJ2.nV a1 a2).frmI hJ2.i2) ml_RL_130 mi_yX5_correctedTime hJ2.km (by decide) (by decide +kernel) rfl (Nat.le_of_ble_eq_true rfl) (Nat.le_of_ble_eq_true rfl) (Nat.le_of_ble_eq_true rfl) (by show _ + 0 ≤ 603072; omega) (by show _ + 0 ≤ 7207018; omega) dL_law_364 (fun v2 w2 h => ?_) _ rfl
  obtain ⟨u2, hf2, hc2, rfl⟩ := h
  obtain ⟨q2, am2, hR2, hA2, hV2, hx2⟩ := km_correctedTime hJ2.nA hJ2.nV a1 a2 hf2
  obtain ⟨hκ, hq, hv⟩ := kf_correctedTime hI.1 a1 a2 hR1 hR2
  have hI2 := ki_correctedTime hI a1 a2 hR1
  subst hq
  have hJ3 : LJ (fr S2 u2 w1) u1 u2 ad1 am2 q1 q1 ao dx := hJ2.mod hA2 hV2 hc2
  have hr3 : r = 0 → aJ (fr S2 u2 w1) ao 0 = v2.toInt64 := fun z => by
    rw [hJ2.modJ hc2, hr1 z, hv z]
  refine v_istore C [(7, .int v2), (6, .int r), (5, .int iv), (4, .ref dx), (3, .ref ao), (2, .ref (am 0)), (1, .ref (ad 0 0)), (0, .ref b)] (by decide) rfl dL_law_367 ?_
  refine v_aload_n C 5 rfl rfl dL_law_369 ?_
  refine v_callVi C (st := []) [] ((thr_of l hA2 hx2).frmI hJ3.i2) ml_RL_120 mi_yX5_thrown (hx2 ▸ hJ3.km) (by decide) (by decide +kernel) rfl (Nat.le_of_ble_eq_true rfl) (Nat.le_of_ble_eq_true rfl) (Nat.le_of_ble_eq_true rfl) (by show _ + 0 ≤ 603072; omega) (by show _ + 0 ≤ 7207018; omega) dL_law_370 (fun r3 w3 h => ?_) _ rfl
  obtain ⟨u3, ⟨hr4, rfl⟩, hc3, rfl⟩ := h
  rw [fr_self hJ3.i2]
  refine v_iload C 1 rfl dL_law_373 ?_
  refine v_icmp_eq C 380 (by decide) dL_law_375 (fun c375 => ?_) (fun q => ((q (hr4.symm.trans hκ.symm) : False)).elim)
  refine v_iload C 1 rfl dL_law_380 ?_
  refine v_if_ne C 397 (by decide) dL_law_382 (fun hz => ?_) (fun hz => ?_)
  · refine v_goto C 1969 (by decide) dL_law_397 ?_
    exact V.sub [2, 3, 4, 5, 6, 7] rfl (kk _ _ _ ad1 am2 q1 _ _ _ hJ3 hx1 hx2 hI2 (Or.inl ⟨rfl, by omega, by omega⟩))
  · refine v_aload_n C 4 rfl rfl dL_law_385 ?_
    refine v_iconst C 0 (by decide) dL_law_386 ?_
    refine v_lald C v2.toInt64 hJ3.rao.1 (by rw [hJ3.rao.2.1]; unfold vp_in; decide) (hr3 hz) dL_law_387 ?_
    refine v_iload C 0 rfl dL_law_388 ?_
    refine v_i2l C dL_law_390 ?_
    refine v_lcmp C dL_law_391 ?_
    refine v_if_eq C 397 (by decide) dL_law_392 (fun c392 => ?_) (fun q => ((q (lg_cmp_rf _) : False)).elim)
    refine v_goto C 1969 (by decide) dL_law_397 ?_
    exact V.sub [2, 3, 4, 5, 6, 7] rfl (kk _ _ _ ad1 am2 q1 _ _ _ hJ3 hx1 hx2 hI2 (Or.inl ⟨rfl, by omega, by omega⟩))
set_option maxRecDepth 100000 in
set_option maxHeartbeats 4000000 in
theorem lw_setGate {l : Launch} {pP : Program} {eE : Env} {sS : State} {mM : MethodId} {aA : Array Value} {bB : List Frame} {tT : Method} {cC : Code} {G : GT} {A : Nat → Prop} {Q : State → Prop} (hlf : l.stackTraces = false) (C : Cx pP l eE room_1 sS mM aA bB tT cC cL_law 9 RL G A) {b L : Nat} {xs : Nat → Int32} (hX : va_X b L xs sS sS.heap) (hbl : b < sS.heap.size) (hbA : ¬ A b) (iv : Int32) (hin : ∀ z : Int32, z = 1 ∨ z = 2 ∨ z = 3 ∨ z = 4 → vp_in (iv + z) L) (w S1 S2 : HS) (ad : AD) (am : AM) (q : AS) (ao dx : Nat) (hJ : LJ w S1 S2 ad am q q ao dx) (B k n : Nat) (hI : INV q B) (hB : B ≤ 257) (hk : k + 1000 ≤ 603072) (hn : n + 30000 ≤ 7207018) (kk : ∀ (w' S1' S2' : HS) (ad' : AD) (am' : AM) (q' : AS) (B' k' n' : Nat), LJ w' S1' S2' ad' am' q' q' ao dx → ad' 0 0 = ad 0 0 → am' 0 = am 0 → INV q' B' → LB q q' B B' k n k' n' → V pP l eE room_1 sS mM aA bB tT cC 9 G A w' k' n' Q 1969 [(5, .int iv), (4, .ref dx), (3, .ref ao), (2, .ref (am 0)), (1, .ref (ad 0 0)), (0, .ref b)] []) : V pP l eE room_1 sS mM aA bB tT cC 9 G A w k n Q 400 [(5, .int iv), (4, .ref dx), (3, .ref ao), (2, .ref (am 0)), (1, .ref (ad 0 0)), (0, .ref b)] [] := by
  have h1 := hin 1 (by decide)
  obtain ⟨a1, e1⟩ : ∃ z, xs (iv + 1).toNatClampNeg = z := ⟨_, rfl⟩
  refine v_aload_n C 4 rfl rfl dL_law_400 ?_
  refine v_aload_n C 5 rfl rfl dL_law_401 ?_
  refine v_iload C 0 rfl dL_law_402 ?_
  refine v_iconst C 1 (by decide) dL_law_404 ?_
  refine v_iadd C dL_law_405 ?_
  refine v_sld C hX hbl hbA h1 e1 dL_law_406 ?_
  refine v_aload_n C 2 rfl rfl dL_law_407 ?_
  refine v_callSHi C (st := []) [.ref (ad 0 0), .int a1, .ref ao] (c_L_setGate l w S1 hJ.i1 (ad 0 0) ao a1 _ _ (c_X4_setGate l hlf S1 ad q hI.1 hJ.hA hJ.hV a1) (fun E u hx => hx.1) hJ.kx hJ.rao.1 hJ.rao.2.1 hJ.rao.2.2.1) mlh_RL_131 rfl (Nat.le_of_ble_eq_true rfl) (Nat.le_of_ble_eq_true rfl) (Nat.le_of_ble_eq_true rfl) (by show _ + 1 ≤ 603072; omega) (by show _ + 6 ≤ 7207018; omega) dL_law_408 (fun r w1 h => ?_) _ rfl
  obtain ⟨q1, v, u1, ad1, hR1, hA1, hV1, hx1, hc1, hw1⟩ := kc_setGate hJ.hA hJ.hV a1 h
  have hJ1 : LJ (fr S1 u1 w) u1 S2 ad1 am q1 q ao dx := hJ.cls hA1 hV1 hc1
  have hJ2 : LJ w1 u1 S2 ad1 am q1 q ao dx := by
    rcases hw1 with ⟨-, rfl⟩ | ⟨-, rfl⟩
    · exact hJ1.rowJ
    · exact hJ1
  have hr1 : r = 0 → aJ w1 ao 0 = v.toInt64 := fun z => by
    rcases hw1 with ⟨-, rfl⟩ | ⟨h9, -⟩
    · exact (aJ_tJ1 0).trans (if_pos rfl)
    · exact absurd z h9
  refine v_istore C [(6, .int r), (5, .int iv), (4, .ref dx), (3, .ref ao), (2, .ref (am 0)), (1, .ref (ad 0 0)), (0, .ref b)] (by decide) rfl dL_law_411 ?_
  refine v_aload_n C 4 rfl rfl dL_law_413 ?_
  refine v_aload_n C 6 rfl rfl dL_law_414 ?_
  refine v_iload C 1 rfl dL_law_415 ?_
  refine v_iconst C 1 (by decide) dL_law_417 ?_
  refine v_iadd C dL_law_418 ?_
  refine v_sld C hX hbl hbA h1 e1 dL_law_419 ?_
  refine v_callVi C (st := []) [.int a1] ((c_X5_setGate l S2 am q hJ2.nA hJ2.nV a1).frmI hJ2.i2) ml_RL_133 mi_yX5_setGate hJ2.km (by decide) (by decide +kernel) rfl (Nat.le_of_ble_eq_true rfl) (Nat.le_of_ble_eq_true rfl) (Nat.le_of_ble_eq_true rfl) (by show _ + 0 ≤ 603072; omega) (by show _ + 0 ≤ 7207018; omega) dL_law_420 (fun v2 w2 h => ?_) _ rfl
  obtain ⟨u2, hf2, hc2, rfl⟩ := h
  obtain ⟨q2, am2, hR2, hA2, hV2, hx2⟩ := km_setGate hJ2.nA hJ2.nV a1 hf2
  obtain ⟨hκ, hq, hv⟩ := kf_setGate hI.1 a1 hR1 hR2
  have hI2 := ki_setGate hI a1 hR1
  subst hq
  have hJ3 : LJ (fr S2 u2 w1) u1 u2 ad1 am2 q1 q1 ao dx := hJ2.mod hA2 hV2 hc2
  have hr3 : r = 0 → aJ (fr S2 u2 w1) ao 0 = v2.toInt64 := fun z => by
    rw [hJ2.modJ hc2, hr1 z, hv z]
  refine v_istore C [(7, .int v2), (6, .int r), (5, .int iv), (4, .ref dx), (3, .ref ao), (2, .ref (am 0)), (1, .ref (ad 0 0)), (0, .ref b)] (by decide) rfl dL_law_423 ?_
  refine v_aload_n C 5 rfl rfl dL_law_425 ?_
  refine v_callVi C (st := []) [] ((thr_of l hA2 hx2).frmI hJ3.i2) ml_RL_120 mi_yX5_thrown (hx2 ▸ hJ3.km) (by decide) (by decide +kernel) rfl (Nat.le_of_ble_eq_true rfl) (Nat.le_of_ble_eq_true rfl) (Nat.le_of_ble_eq_true rfl) (by show _ + 0 ≤ 603072; omega) (by show _ + 0 ≤ 7207018; omega) dL_law_426 (fun r3 w3 h => ?_) _ rfl
  obtain ⟨u3, ⟨hr4, rfl⟩, hc3, rfl⟩ := h
  rw [fr_self hJ3.i2]
  refine v_iload C 1 rfl dL_law_429 ?_
  refine v_icmp_eq C 436 (by decide) dL_law_431 (fun c431 => ?_) (fun q => ((q (hr4.symm.trans hκ.symm) : False)).elim)
  refine v_iload C 1 rfl dL_law_436 ?_
  refine v_if_ne C 453 (by decide) dL_law_438 (fun hz => ?_) (fun hz => ?_)
  · refine v_goto C 1969 (by decide) dL_law_453 ?_
    exact V.sub [2, 3, 4, 5, 6, 7] rfl (kk _ _ _ ad1 am2 q1 _ _ _ hJ3 hx1 hx2 hI2 (Or.inl ⟨rfl, by omega, by omega⟩))
  · refine v_aload_n C 4 rfl rfl dL_law_441 ?_
    refine v_iconst C 0 (by decide) dL_law_442 ?_
    refine v_lald C v2.toInt64 hJ3.rao.1 (by rw [hJ3.rao.2.1]; unfold vp_in; decide) (hr3 hz) dL_law_443 ?_
    refine v_iload C 0 rfl dL_law_444 ?_
    refine v_i2l C dL_law_446 ?_
    refine v_lcmp C dL_law_447 ?_
    refine v_if_eq C 453 (by decide) dL_law_448 (fun c448 => ?_) (fun q => ((q (lg_cmp_rf _) : False)).elim)
    refine v_goto C 1969 (by decide) dL_law_453 ?_
    exact V.sub [2, 3, 4, 5, 6, 7] rfl (kk _ _ _ ad1 am2 q1 _ _ _ hJ3 hx1 hx2 hI2 (Or.inl ⟨rfl, by omega, by omega⟩))
set_option maxRecDepth 100000 in
set_option maxHeartbeats 4000000 in
theorem lw_setFilter {l : Launch} {pP : Program} {eE : Env} {sS : State} {mM : MethodId} {aA : Array Value} {bB : List Frame} {tT : Method} {cC : Code} {G : GT} {A : Nat → Prop} {Q : State → Prop} (hlf : l.stackTraces = false) (C : Cx pP l eE room_1 sS mM aA bB tT cC cL_law 9 RL G A) {b L : Nat} {xs : Nat → Int32} (hX : va_X b L xs sS sS.heap) (hbl : b < sS.heap.size) (hbA : ¬ A b) (iv : Int32) (hin : ∀ z : Int32, z = 1 ∨ z = 2 ∨ z = 3 ∨ z = 4 → vp_in (iv + z) L) (w S1 S2 : HS) (ad : AD) (am : AM) (q : AS) (ao dx : Nat) (hJ : LJ w S1 S2 ad am q q ao dx) (B k n : Nat) (hI : INV q B) (hB : B ≤ 257) (hk : k + 1000 ≤ 603072) (hn : n + 30000 ≤ 7207018) (kk : ∀ (w' S1' S2' : HS) (ad' : AD) (am' : AM) (q' : AS) (B' k' n' : Nat), LJ w' S1' S2' ad' am' q' q' ao dx → ad' 0 0 = ad 0 0 → am' 0 = am 0 → INV q' B' → LB q q' B B' k n k' n' → V pP l eE room_1 sS mM aA bB tT cC 9 G A w' k' n' Q 1969 [(5, .int iv), (4, .ref dx), (3, .ref ao), (2, .ref (am 0)), (1, .ref (ad 0 0)), (0, .ref b)] []) : V pP l eE room_1 sS mM aA bB tT cC 9 G A w k n Q 456 [(5, .int iv), (4, .ref dx), (3, .ref ao), (2, .ref (am 0)), (1, .ref (ad 0 0)), (0, .ref b)] [] := by
  have h1 := hin 1 (by decide)
  obtain ⟨a1, e1⟩ : ∃ z, xs (iv + 1).toNatClampNeg = z := ⟨_, rfl⟩
  have h2 := hin 2 (by decide)
  obtain ⟨a2, e2⟩ : ∃ z, xs (iv + 2).toNatClampNeg = z := ⟨_, rfl⟩
  refine v_aload_n C 4 rfl rfl dL_law_456 ?_
  refine v_aload_n C 5 rfl rfl dL_law_457 ?_
  refine v_iload C 0 rfl dL_law_458 ?_
  refine v_iconst C 1 (by decide) dL_law_460 ?_
  refine v_iadd C dL_law_461 ?_
  refine v_sld C hX hbl hbA h1 e1 dL_law_462 ?_
  refine v_aload_n C 5 rfl rfl dL_law_463 ?_
  refine v_iload C 0 rfl dL_law_464 ?_
  refine v_iconst C 2 (by decide) dL_law_466 ?_
  refine v_iadd C dL_law_467 ?_
  refine v_sld C hX hbl hbA h2 e2 dL_law_468 ?_
  refine v_aload_n C 2 rfl rfl dL_law_469 ?_
  refine v_callSHi C (st := []) [.ref (ad 0 0), .int a1, .int a2, .ref ao] (c_L_setFilter l w S1 hJ.i1 (ad 0 0) ao a1 a2 _ _ (c_X4_setFilter l hlf S1 ad q hI.1 hJ.hA hJ.hV a1 a2) (fun E u hx => hx.1) hJ.kx hJ.rao.1 hJ.rao.2.1 hJ.rao.2.2.1) mlh_RL_134 rfl (Nat.le_of_ble_eq_true rfl) (Nat.le_of_ble_eq_true rfl) (Nat.le_of_ble_eq_true rfl) (by show _ + 1 ≤ 603072; omega) (by show _ + 6 ≤ 7207018; omega) dL_law_470 (fun r w1 h => ?_) _ rfl
  obtain ⟨q1, v, u1, ad1, hR1, hA1, hV1, hx1, hc1, hw1⟩ := kc_setFilter hJ.hA hJ.hV a1 a2 h
  have hJ1 : LJ (fr S1 u1 w) u1 S2 ad1 am q1 q ao dx := hJ.cls hA1 hV1 hc1
  have hJ2 : LJ w1 u1 S2 ad1 am q1 q ao dx := by
    rcases hw1 with ⟨-, rfl⟩ | ⟨-, rfl⟩
    · exact hJ1.rowJ
    · exact hJ1
  have hr1 : r = 0 → aJ w1 ao 0 = v.toInt64 := fun z => by
    rcases hw1 with ⟨-, rfl⟩ | ⟨h9, -⟩
    · exact (aJ_tJ1 0).trans (if_pos rfl)
    · exact absurd z h9
  refine v_istore C [(6, .int r), (5, .int iv), (4, .ref dx), (3, .ref ao), (2, .ref (am 0)), (1, .ref (ad 0 0)), (0, .ref b)] (by decide) rfl dL_law_473 ?_
  refine v_aload_n C 4 rfl rfl dL_law_475 ?_
  refine v_aload_n C 6 rfl rfl dL_law_476 ?_
  refine v_iload C 1 rfl dL_law_477 ?_
  refine v_iconst C 1 (by decide) dL_law_479 ?_
  refine v_iadd C dL_law_480 ?_
  refine v_sld C hX hbl hbA h1 e1 dL_law_481 ?_
  refine v_aload_n C 6 rfl rfl dL_law_482 ?_
  refine v_iload C 1 rfl dL_law_483 ?_
  refine v_iconst C 2 (by decide) dL_law_485 ?_
  refine v_iadd C dL_law_486 ?_
  refine v_sld C hX hbl hbA h2 e2 dL_law_487 ?_
  refine v_callVi C (st := []) [.int a1, .int a2] ((c_X5_setFilter l S2 am q hJ2.nA hJ2.nV a1 a2).frmI hJ2.i2) ml_RL_136 mi_yX5_setFilter hJ2.km (by decide) (by decide +kernel) rfl (Nat.le_of_ble_eq_true rfl) (Nat.le_of_ble_eq_true rfl) (Nat.le_of_ble_eq_true rfl) (by show _ + 0 ≤ 603072; omega) (by show _ + 0 ≤ 7207018; omega) dL_law_488 (fun v2 w2 h => ?_) _ rfl
  obtain ⟨u2, hf2, hc2, rfl⟩ := h
  obtain ⟨q2, am2, hR2, hA2, hV2, hx2⟩ := km_setFilter hJ2.nA hJ2.nV a1 a2 hf2
  obtain ⟨hκ, hq, hv⟩ := kf_setFilter hI.1 a1 a2 hR1 hR2
  have hI2 := ki_setFilter hI a1 a2 hR1
  subst hq
  have hJ3 : LJ (fr S2 u2 w1) u1 u2 ad1 am2 q1 q1 ao dx := hJ2.mod hA2 hV2 hc2
  have hr3 : r = 0 → aJ (fr S2 u2 w1) ao 0 = v2.toInt64 := fun z => by
    rw [hJ2.modJ hc2, hr1 z, hv z]
  refine v_istore C [(7, .int v2), (6, .int r), (5, .int iv), (4, .ref dx), (3, .ref ao), (2, .ref (am 0)), (1, .ref (ad 0 0)), (0, .ref b)] (by decide) rfl dL_law_491 ?_
  refine v_aload_n C 5 rfl rfl dL_law_493 ?_
  refine v_callVi C (st := []) [] ((thr_of l hA2 hx2).frmI hJ3.i2) ml_RL_120 mi_yX5_thrown (hx2 ▸ hJ3.km) (by decide) (by decide +kernel) rfl (Nat.le_of_ble_eq_true rfl) (Nat.le_of_ble_eq_true rfl) (Nat.le_of_ble_eq_true rfl) (by show _ + 0 ≤ 603072; omega) (by show _ + 0 ≤ 7207018; omega) dL_law_494 (fun r3 w3 h => ?_) _ rfl
  obtain ⟨u3, ⟨hr4, rfl⟩, hc3, rfl⟩ := h
  rw [fr_self hJ3.i2]
  refine v_iload C 1 rfl dL_law_497 ?_
  refine v_icmp_eq C 504 (by decide) dL_law_499 (fun c499 => ?_) (fun q => ((q (hr4.symm.trans hκ.symm) : False)).elim)
  refine v_iload C 1 rfl dL_law_504 ?_
  refine v_if_ne C 521 (by decide) dL_law_506 (fun hz => ?_) (fun hz => ?_)
  · refine v_goto C 1969 (by decide) dL_law_521 ?_
    exact V.sub [2, 3, 4, 5, 6, 7] rfl (kk _ _ _ ad1 am2 q1 _ _ _ hJ3 hx1 hx2 hI2 (Or.inl ⟨rfl, by omega, by omega⟩))
  · refine v_aload_n C 4 rfl rfl dL_law_509 ?_
    refine v_iconst C 0 (by decide) dL_law_510 ?_
    refine v_lald C v2.toInt64 hJ3.rao.1 (by rw [hJ3.rao.2.1]; unfold vp_in; decide) (hr3 hz) dL_law_511 ?_
    refine v_iload C 0 rfl dL_law_512 ?_
    refine v_i2l C dL_law_514 ?_
    refine v_lcmp C dL_law_515 ?_
    refine v_if_eq C 521 (by decide) dL_law_516 (fun c516 => ?_) (fun q => ((q (lg_cmp_rf _) : False)).elim)
    refine v_goto C 1969 (by decide) dL_law_521 ?_
    exact V.sub [2, 3, 4, 5, 6, 7] rfl (kk _ _ _ ad1 am2 q1 _ _ _ hJ3 hx1 hx2 hI2 (Or.inl ⟨rfl, by omega, by omega⟩))
set_option maxRecDepth 100000 in
set_option maxHeartbeats 4000000 in
theorem lw_setLimit {l : Launch} {pP : Program} {eE : Env} {sS : State} {mM : MethodId} {aA : Array Value} {bB : List Frame} {tT : Method} {cC : Code} {G : GT} {A : Nat → Prop} {Q : State → Prop} (hlf : l.stackTraces = false) (C : Cx pP l eE room_1 sS mM aA bB tT cC cL_law 9 RL G A) {b L : Nat} {xs : Nat → Int32} (hX : va_X b L xs sS sS.heap) (hbl : b < sS.heap.size) (hbA : ¬ A b) (iv : Int32) (hin : ∀ z : Int32, z = 1 ∨ z = 2 ∨ z = 3 ∨ z = 4 → vp_in (iv + z) L) (w S1 S2 : HS) (ad : AD) (am : AM) (q : AS) (ao dx : Nat) (hJ : LJ w S1 S2 ad am q q ao dx) (B k n : Nat) (hI : INV q B) (hB : B ≤ 257) (hk : k + 1000 ≤ 603072) (hn : n + 30000 ≤ 7207018) (kk : ∀ (w' S1' S2' : HS) (ad' : AD) (am' : AM) (q' : AS) (B' k' n' : Nat), LJ w' S1' S2' ad' am' q' q' ao dx → ad' 0 0 = ad 0 0 → am' 0 = am 0 → INV q' B' → LB q q' B B' k n k' n' → V pP l eE room_1 sS mM aA bB tT cC 9 G A w' k' n' Q 1969 [(5, .int iv), (4, .ref dx), (3, .ref ao), (2, .ref (am 0)), (1, .ref (ad 0 0)), (0, .ref b)] []) : V pP l eE room_1 sS mM aA bB tT cC 9 G A w k n Q 524 [(5, .int iv), (4, .ref dx), (3, .ref ao), (2, .ref (am 0)), (1, .ref (ad 0 0)), (0, .ref b)] [] := by
  have h1 := hin 1 (by decide)
  obtain ⟨a1, e1⟩ : ∃ z, xs (iv + 1).toNatClampNeg = z := ⟨_, rfl⟩
  refine v_aload_n C 4 rfl rfl dL_law_524 ?_
  refine v_aload_n C 5 rfl rfl dL_law_525 ?_
  refine v_iload C 0 rfl dL_law_526 ?_
  refine v_iconst C 1 (by decide) dL_law_528 ?_
  refine v_iadd C dL_law_529 ?_
  refine v_sld C hX hbl hbA h1 e1 dL_law_530 ?_
  refine v_aload_n C 2 rfl rfl dL_law_531 ?_
  refine v_callSHi C (st := []) [.ref (ad 0 0), .int a1, .ref ao] (c_L_setLimit l w S1 hJ.i1 (ad 0 0) ao a1 _ _ (c_X4_setLimit l hlf S1 ad q hI.1 hJ.hA hJ.hV a1) (fun E u hx => hx.1) hJ.kx hJ.rao.1 hJ.rao.2.1 hJ.rao.2.2.1) mlh_RL_137 rfl (Nat.le_of_ble_eq_true rfl) (Nat.le_of_ble_eq_true rfl) (Nat.le_of_ble_eq_true rfl) (by show _ + 1 ≤ 603072; omega) (by show _ + 6 ≤ 7207018; omega) dL_law_532 (fun r w1 h => ?_) _ rfl
  obtain ⟨q1, v, u1, ad1, hR1, hA1, hV1, hx1, hc1, hw1⟩ := kc_setLimit hJ.hA hJ.hV a1 h
  have hJ1 : LJ (fr S1 u1 w) u1 S2 ad1 am q1 q ao dx := hJ.cls hA1 hV1 hc1
  have hJ2 : LJ w1 u1 S2 ad1 am q1 q ao dx := by
    rcases hw1 with ⟨-, rfl⟩ | ⟨-, rfl⟩
    · exact hJ1.rowJ
    · exact hJ1
  have hr1 : r = 0 → aJ w1 ao 0 = v.toInt64 := fun z => by
    rcases hw1 with ⟨-, rfl⟩ | ⟨h9, -⟩
    · exact (aJ_tJ1 0).trans (if_pos rfl)
    · exact absurd z h9
  refine v_istore C [(6, .int r), (5, .int iv), (4, .ref dx), (3, .ref ao), (2, .ref (am 0)), (1, .ref (ad 0 0)), (0, .ref b)] (by decide) rfl dL_law_535 ?_
  refine v_aload_n C 4 rfl rfl dL_law_537 ?_
  refine v_aload_n C 6 rfl rfl dL_law_538 ?_
  refine v_iload C 1 rfl dL_law_539 ?_
  refine v_iconst C 1 (by decide) dL_law_541 ?_
  refine v_iadd C dL_law_542 ?_
  refine v_sld C hX hbl hbA h1 e1 dL_law_543 ?_
  refine v_callVi C (st := []) [.int a1] ((c_X5_setLimit l S2 am q hJ2.nA hJ2.nV a1).frmI hJ2.i2) ml_RL_139 mi_yX5_setLimit hJ2.km (by decide) (by decide +kernel) rfl (Nat.le_of_ble_eq_true rfl) (Nat.le_of_ble_eq_true rfl) (Nat.le_of_ble_eq_true rfl) (by show _ + 0 ≤ 603072; omega) (by show _ + 0 ≤ 7207018; omega) dL_law_544 (fun v2 w2 h => ?_) _ rfl
  obtain ⟨u2, hf2, hc2, rfl⟩ := h
  obtain ⟨q2, am2, hR2, hA2, hV2, hx2⟩ := km_setLimit hJ2.nA hJ2.nV a1 hf2
  obtain ⟨hκ, hq, hv⟩ := kf_setLimit hI.1 a1 hR1 hR2
  have hI2 := ki_setLimit hI a1 hR1
  subst hq
  have hJ3 : LJ (fr S2 u2 w1) u1 u2 ad1 am2 q1 q1 ao dx := hJ2.mod hA2 hV2 hc2
  have hr3 : r = 0 → aJ (fr S2 u2 w1) ao 0 = v2.toInt64 := fun z => by
    rw [hJ2.modJ hc2, hr1 z, hv z]
  refine v_istore C [(7, .int v2), (6, .int r), (5, .int iv), (4, .ref dx), (3, .ref ao), (2, .ref (am 0)), (1, .ref (ad 0 0)), (0, .ref b)] (by decide) rfl dL_law_547 ?_
  refine v_aload_n C 5 rfl rfl dL_law_549 ?_
  refine v_callVi C (st := []) [] ((thr_of l hA2 hx2).frmI hJ3.i2) ml_RL_120 mi_yX5_thrown (hx2 ▸ hJ3.km) (by decide) (by decide +kernel) rfl (Nat.le_of_ble_eq_true rfl) (Nat.le_of_ble_eq_true rfl) (Nat.le_of_ble_eq_true rfl) (by show _ + 0 ≤ 603072; omega) (by show _ + 0 ≤ 7207018; omega) dL_law_550 (fun r3 w3 h => ?_) _ rfl
  obtain ⟨u3, ⟨hr4, rfl⟩, hc3, rfl⟩ := h
  rw [fr_self hJ3.i2]
  refine v_iload C 1 rfl dL_law_553 ?_
  refine v_icmp_eq C 560 (by decide) dL_law_555 (fun c555 => ?_) (fun q => ((q (hr4.symm.trans hκ.symm) : False)).elim)
  refine v_iload C 1 rfl dL_law_560 ?_
  refine v_if_ne C 577 (by decide) dL_law_562 (fun hz => ?_) (fun hz => ?_)
  · refine v_goto C 1969 (by decide) dL_law_577 ?_
    exact V.sub [2, 3, 4, 5, 6, 7] rfl (kk _ _ _ ad1 am2 q1 _ _ _ hJ3 hx1 hx2 hI2 (Or.inl ⟨rfl, by omega, by omega⟩))
  · refine v_aload_n C 4 rfl rfl dL_law_565 ?_
    refine v_iconst C 0 (by decide) dL_law_566 ?_
    refine v_lald C v2.toInt64 hJ3.rao.1 (by rw [hJ3.rao.2.1]; unfold vp_in; decide) (hr3 hz) dL_law_567 ?_
    refine v_iload C 0 rfl dL_law_568 ?_
    refine v_i2l C dL_law_570 ?_
    refine v_lcmp C dL_law_571 ?_
    refine v_if_eq C 577 (by decide) dL_law_572 (fun c572 => ?_) (fun q => ((q (lg_cmp_rf _) : False)).elim)
    refine v_goto C 1969 (by decide) dL_law_577 ?_
    exact V.sub [2, 3, 4, 5, 6, 7] rfl (kk _ _ _ ad1 am2 q1 _ _ _ hJ3 hx1 hx2 hI2 (Or.inl ⟨rfl, by omega, by omega⟩))
set_option maxRecDepth 100000 in
set_option maxHeartbeats 4000000 in
theorem lw_setNearness {l : Launch} {pP : Program} {eE : Env} {sS : State} {mM : MethodId} {aA : Array Value} {bB : List Frame} {tT : Method} {cC : Code} {G : GT} {A : Nat → Prop} {Q : State → Prop} (hlf : l.stackTraces = false) (C : Cx pP l eE room_1 sS mM aA bB tT cC cL_law 9 RL G A) {b L : Nat} {xs : Nat → Int32} (hX : va_X b L xs sS sS.heap) (hbl : b < sS.heap.size) (hbA : ¬ A b) (iv : Int32) (hin : ∀ z : Int32, z = 1 ∨ z = 2 ∨ z = 3 ∨ z = 4 → vp_in (iv + z) L) (w S1 S2 : HS) (ad : AD) (am : AM) (q : AS) (ao dx : Nat) (hJ : LJ w S1 S2 ad am q q ao dx) (B k n : Nat) (hI : INV q B) (hB : B ≤ 257) (hk : k + 1000 ≤ 603072) (hn : n + 30000 ≤ 7207018) (kk : ∀ (w' S1' S2' : HS) (ad' : AD) (am' : AM) (q' : AS) (B' k' n' : Nat), LJ w' S1' S2' ad' am' q' q' ao dx → ad' 0 0 = ad 0 0 → am' 0 = am 0 → INV q' B' → LB q q' B B' k n k' n' → V pP l eE room_1 sS mM aA bB tT cC 9 G A w' k' n' Q 1969 [(5, .int iv), (4, .ref dx), (3, .ref ao), (2, .ref (am 0)), (1, .ref (ad 0 0)), (0, .ref b)] []) : V pP l eE room_1 sS mM aA bB tT cC 9 G A w k n Q 580 [(5, .int iv), (4, .ref dx), (3, .ref ao), (2, .ref (am 0)), (1, .ref (ad 0 0)), (0, .ref b)] [] := by
  have h1 := hin 1 (by decide)
  obtain ⟨a1, e1⟩ : ∃ z, xs (iv + 1).toNatClampNeg = z := ⟨_, rfl⟩
  refine v_aload_n C 4 rfl rfl dL_law_580 ?_
  refine v_aload_n C 5 rfl rfl dL_law_581 ?_
  refine v_iload C 0 rfl dL_law_582 ?_
  refine v_iconst C 1 (by decide) dL_law_584 ?_
  refine v_iadd C dL_law_585 ?_
  refine v_sld C hX hbl hbA h1 e1 dL_law_586 ?_
  refine v_aload_n C 2 rfl rfl dL_law_587 ?_
  refine v_callSHi C (st := []) [.ref (ad 0 0), .int a1, .ref ao] (c_L_setNearness l w S1 hJ.i1 (ad 0 0) ao a1 _ _ (c_X4_setNearness l hlf S1 ad q hI.1 hJ.hA hJ.hV a1) (fun E u hx => hx.1) hJ.kx hJ.rao.1 hJ.rao.2.1 hJ.rao.2.2.1) mlh_RL_140 rfl (Nat.le_of_ble_eq_true rfl) (Nat.le_of_ble_eq_true rfl) (Nat.le_of_ble_eq_true rfl) (by show _ + 1 ≤ 603072; omega) (by show _ + 6 ≤ 7207018; omega) dL_law_588 (fun r w1 h => ?_) _ rfl
  obtain ⟨q1, v, u1, ad1, hR1, hA1, hV1, hx1, hc1, hw1⟩ := kc_setNearness hJ.hA hJ.hV a1 h
  have hJ1 : LJ (fr S1 u1 w) u1 S2 ad1 am q1 q ao dx := hJ.cls hA1 hV1 hc1
  have hJ2 : LJ w1 u1 S2 ad1 am q1 q ao dx := by
    rcases hw1 with ⟨-, rfl⟩ | ⟨-, rfl⟩
    · exact hJ1.rowJ
    · exact hJ1
  have hr1 : r = 0 → aJ w1 ao 0 = v.toInt64 := fun z => by
    rcases hw1 with ⟨-, rfl⟩ | ⟨h9, -⟩
    · exact (aJ_tJ1 0).trans (if_pos rfl)
    · exact absurd z h9
  refine v_istore C [(6, .int r), (5, .int iv), (4, .ref dx), (3, .ref ao), (2, .ref (am 0)), (1, .ref (ad 0 0)), (0, .ref b)] (by decide) rfl dL_law_591 ?_
  refine v_aload_n C 4 rfl rfl dL_law_593 ?_
  refine v_aload_n C 6 rfl rfl dL_law_594 ?_
  refine v_iload C 1 rfl dL_law_595 ?_
  refine v_iconst C 1 (by decide) dL_law_597 ?_
  refine v_iadd C dL_law_598 ?_
  refine v_sld C hX hbl hbA h1 e1 dL_law_599 ?_
  refine v_callVi C (st := []) [.int a1] ((c_X5_setNearness l S2 am q hJ2.nA hJ2.nV a1).frmI hJ2.i2) ml_RL_142 mi_yX5_setNearness hJ2.km (by decide) (by decide +kernel) rfl (Nat.le_of_ble_eq_true rfl) (Nat.le_of_ble_eq_true rfl) (Nat.le_of_ble_eq_true rfl) (by show _ + 0 ≤ 603072; omega) (by show _ + 0 ≤ 7207018; omega) dL_law_600 (fun v2 w2 h => ?_) _ rfl
  obtain ⟨u2, hf2, hc2, rfl⟩ := h
  obtain ⟨q2, am2, hR2, hA2, hV2, hx2⟩ := km_setNearness hJ2.nA hJ2.nV a1 hf2
  obtain ⟨hκ, hq, hv⟩ := kf_setNearness hI.1 a1 hR1 hR2
  have hI2 := ki_setNearness hI a1 hR1
  subst hq
  have hJ3 : LJ (fr S2 u2 w1) u1 u2 ad1 am2 q1 q1 ao dx := hJ2.mod hA2 hV2 hc2
  have hr3 : r = 0 → aJ (fr S2 u2 w1) ao 0 = v2.toInt64 := fun z => by
    rw [hJ2.modJ hc2, hr1 z, hv z]
  refine v_istore C [(7, .int v2), (6, .int r), (5, .int iv), (4, .ref dx), (3, .ref ao), (2, .ref (am 0)), (1, .ref (ad 0 0)), (0, .ref b)] (by decide) rfl dL_law_603 ?_
  refine v_aload_n C 5 rfl rfl dL_law_605 ?_
  refine v_callVi C (st := []) [] ((thr_of l hA2 hx2).frmI hJ3.i2) ml_RL_120 mi_yX5_thrown (hx2 ▸ hJ3.km) (by decide) (by decide +kernel) rfl (Nat.le_of_ble_eq_true rfl) (Nat.le_of_ble_eq_true rfl) (Nat.le_of_ble_eq_true rfl) (by show _ + 0 ≤ 603072; omega) (by show _ + 0 ≤ 7207018; omega) dL_law_606 (fun r3 w3 h => ?_) _ rfl
  obtain ⟨u3, ⟨hr4, rfl⟩, hc3, rfl⟩ := h
  rw [fr_self hJ3.i2]
  refine v_iload C 1 rfl dL_law_609 ?_
  refine v_icmp_eq C 616 (by decide) dL_law_611 (fun c611 => ?_) (fun q => ((q (hr4.symm.trans hκ.symm) : False)).elim)
  refine v_iload C 1 rfl dL_law_616 ?_
  refine v_if_ne C 633 (by decide) dL_law_618 (fun hz => ?_) (fun hz => ?_)
  · refine v_goto C 1969 (by decide) dL_law_633 ?_
    exact V.sub [2, 3, 4, 5, 6, 7] rfl (kk _ _ _ ad1 am2 q1 _ _ _ hJ3 hx1 hx2 hI2 (Or.inl ⟨rfl, by omega, by omega⟩))
  · refine v_aload_n C 4 rfl rfl dL_law_621 ?_
    refine v_iconst C 0 (by decide) dL_law_622 ?_
    refine v_lald C v2.toInt64 hJ3.rao.1 (by rw [hJ3.rao.2.1]; unfold vp_in; decide) (hr3 hz) dL_law_623 ?_
    refine v_iload C 0 rfl dL_law_624 ?_
    refine v_i2l C dL_law_626 ?_
    refine v_lcmp C dL_law_627 ?_
    refine v_if_eq C 633 (by decide) dL_law_628 (fun c628 => ?_) (fun q => ((q (lg_cmp_rf _) : False)).elim)
    refine v_goto C 1969 (by decide) dL_law_633 ?_
    exact V.sub [2, 3, 4, 5, 6, 7] rfl (kk _ _ _ ad1 am2 q1 _ _ _ hJ3 hx1 hx2 hI2 (Or.inl ⟨rfl, by omega, by omega⟩))
set_option maxRecDepth 100000 in
set_option maxHeartbeats 4000000 in
theorem lw_report {l : Launch} {pP : Program} {eE : Env} {sS : State} {mM : MethodId} {aA : Array Value} {bB : List Frame} {tT : Method} {cC : Code} {G : GT} {A : Nat → Prop} {Q : State → Prop} (hlf : l.stackTraces = false) (C : Cx pP l eE room_1 sS mM aA bB tT cC cL_law 9 RL G A) {b L : Nat} {xs : Nat → Int32} (hX : va_X b L xs sS sS.heap) (hbl : b < sS.heap.size) (hbA : ¬ A b) (iv : Int32) (hin : ∀ z : Int32, z = 1 ∨ z = 2 ∨ z = 3 ∨ z = 4 → vp_in (iv + z) L) (w S1 S2 : HS) (ad : AD) (am : AM) (q : AS) (ao dx : Nat) (hJ : LJ w S1 S2 ad am q q ao dx) (B k n : Nat) (hI : INV q B) (hB : B ≤ 257) (hk : k + 1000 ≤ 603072) (hn : n + 30000 ≤ 7207018) (kk : ∀ (w' S1' S2' : HS) (ad' : AD) (am' : AM) (q' : AS) (B' k' n' : Nat), LJ w' S1' S2' ad' am' q' q' ao dx → ad' 0 0 = ad 0 0 → am' 0 = am 0 → INV q' B' → LB q q' B B' k n k' n' → V pP l eE room_1 sS mM aA bB tT cC 9 G A w' k' n' Q 1969 [(5, .int iv), (4, .ref dx), (3, .ref ao), (2, .ref (am 0)), (1, .ref (ad 0 0)), (0, .ref b)] []) : V pP l eE room_1 sS mM aA bB tT cC 9 G A w k n Q 636 [(5, .int iv), (4, .ref dx), (3, .ref ao), (2, .ref (am 0)), (1, .ref (ad 0 0)), (0, .ref b)] [] := by
  have h1 := hin 1 (by decide)
  obtain ⟨a1, e1⟩ : ∃ z, xs (iv + 1).toNatClampNeg = z := ⟨_, rfl⟩
  have h2 := hin 2 (by decide)
  obtain ⟨a2, e2⟩ : ∃ z, xs (iv + 2).toNatClampNeg = z := ⟨_, rfl⟩
  have h3 := hin 3 (by decide)
  obtain ⟨a3, e3⟩ : ∃ z, xs (iv + 3).toNatClampNeg = z := ⟨_, rfl⟩
  have h4 := hin 4 (by decide)
  obtain ⟨a4, e4⟩ : ∃ z, xs (iv + 4).toNatClampNeg = z := ⟨_, rfl⟩
  refine v_aload_n C 4 rfl rfl dL_law_636 ?_
  refine v_aload_n C 5 rfl rfl dL_law_637 ?_
  refine v_iload C 0 rfl dL_law_638 ?_
  refine v_iconst C 1 (by decide) dL_law_640 ?_
  refine v_iadd C dL_law_641 ?_
  refine v_sld C hX hbl hbA h1 e1 dL_law_642 ?_
  refine v_aload_n C 5 rfl rfl dL_law_643 ?_
  refine v_iload C 0 rfl dL_law_644 ?_
  refine v_iconst C 2 (by decide) dL_law_646 ?_
  refine v_iadd C dL_law_647 ?_
  refine v_sld C hX hbl hbA h2 e2 dL_law_648 ?_
  refine v_aload_n C 5 rfl rfl dL_law_649 ?_
  refine v_iload C 0 rfl dL_law_650 ?_
  refine v_iconst C 3 (by decide) dL_law_652 ?_
  refine v_iadd C dL_law_653 ?_
  refine v_sld C hX hbl hbA h3 e3 dL_law_654 ?_
  refine v_aload_n C 5 rfl rfl dL_law_655 ?_
  refine v_iload C 0 rfl dL_law_656 ?_
  refine v_iconst C 4 (by decide) dL_law_658 ?_
  refine v_iadd C dL_law_659 ?_
  refine v_sld C hX hbl hbA h4 e4 dL_law_660 ?_
  refine v_aload_n C 2 rfl rfl dL_law_661 ?_
  refine v_callSHi C (st := []) [.ref (ad 0 0), .int a1, .int a2, .int a3, .int a4, .ref ao] (c_L_report l w S1 hJ.i1 (ad 0 0) ao a1 a2 a3 a4 _ _ (c_X4_report l hlf S1 ad q hI.1 hJ.hA hJ.hV a1 a2 a3 a4) (fun E u hx => hx.2.imp And.left (fun z => z.imp And.left And.left)) hJ.kx hJ.rao.1 hJ.rao.2.1 hJ.rao.2.2.1) mlh_RL_143 rfl (Nat.le_of_ble_eq_true rfl) (Nat.le_of_ble_eq_true rfl) (Nat.le_of_ble_eq_true rfl) (by show _ + 3 ≤ 603072; omega) (by show _ + 18 ≤ 7207018; omega) dL_law_662 (fun r w1 h => ?_) _ rfl
  obtain ⟨q1, v, u1, ad1, hR1, hA1, hV1, hx1, hc1, hw1⟩ := kc_report hJ.hA hJ.hV a1 a2 a3 a4 h
  have hJ1 : LJ (fr S1 u1 w) u1 S2 ad1 am q1 q ao dx := hJ.cls hA1 hV1 hc1
  have hJ2 : LJ w1 u1 S2 ad1 am q1 q ao dx := by
    rcases hw1 with ⟨-, rfl⟩ | ⟨-, rfl⟩
    · exact hJ1.rowJ
    · exact hJ1
  have hr1 : r = 0 → aJ w1 ao 0 = v.toInt64 := fun z => by
    rcases hw1 with ⟨-, rfl⟩ | ⟨h9, -⟩
    · exact (aJ_tJ1 0).trans (if_pos rfl)
    · exact absurd z h9
  refine v_istore C [(6, .int r), (5, .int iv), (4, .ref dx), (3, .ref ao), (2, .ref (am 0)), (1, .ref (ad 0 0)), (0, .ref b)] (by decide) rfl dL_law_665 ?_
  refine v_aload_n C 4 rfl rfl dL_law_667 ?_
  refine v_aload_n C 6 rfl rfl dL_law_668 ?_
  refine v_iload C 1 rfl dL_law_669 ?_
  refine v_iconst C 1 (by decide) dL_law_671 ?_
  refine v_iadd C dL_law_672 ?_
  refine v_sld C hX hbl hbA h1 e1 dL_law_673 ?_
  refine v_aload_n C 6 rfl rfl dL_law_674 ?_
  refine v_iload C 1 rfl dL_law_675 ?_
  refine v_iconst C 2 (by decide) dL_law_677 ?_
  refine v_iadd C dL_law_678 ?_
  refine v_sld C hX hbl hbA h2 e2 dL_law_679 ?_
  refine v_aload_n C 6 rfl rfl dL_law_680 ?_
  refine v_iload C 1 rfl dL_law_681 ?_
  refine v_iconst C 3 (by decide) dL_law_683 ?_
  refine v_iadd C dL_law_684 ?_
  refine v_sld C hX hbl hbA h3 e3 dL_law_685 ?_
  refine v_aload_n C 6 rfl rfl dL_law_686 ?_
  refine v_iload C 1 rfl dL_law_687 ?_
  refine v_iconst C 4 (by decide) dL_law_689 ?_
  refine v_iadd C dL_law_690 ?_
  refine v_sld C hX hbl hbA h4 e4 dL_law_691 ?_
  refine v_callVi C (st := []) [.int a1, .int a2, .int a3, .int a4] ((c_X5_report l S2 am q hI.1 hJ2.nA hJ2.nV a1 a2 a3 a4).frmI hJ2.i2) ml_RL_146 mi_yX5_report hJ2.km (by decide) (by decide +kernel) rfl (Nat.le_of_ble_eq_true rfl) (Nat.le_of_ble_eq_true rfl) (Nat.le_of_ble_eq_true rfl) (by show _ + 0 ≤ 603072; omega) (by show _ + 0 ≤ 7207018; omega) dL_law_692 (fun v2 w2 h => ?_) _ rfl
  obtain ⟨u2, hf2, hc2, rfl⟩ := h
  obtain ⟨q2, am2, hR2, hA2, hV2, hx2⟩ := km_report hJ2.nA hJ2.nV a1 a2 a3 a4 hf2
  obtain ⟨hκ, hq, hv⟩ := kf_report hI.1 a1 a2 a3 a4 hR1 hR2
  have hI2 := ki_report hI a1 a2 a3 a4 hR1
  subst hq
  have hJ3 : LJ (fr S2 u2 w1) u1 u2 ad1 am2 q1 q1 ao dx := hJ2.mod hA2 hV2 hc2
  have hr3 : r = 0 → aJ (fr S2 u2 w1) ao 0 = v2.toInt64 := fun z => by
    rw [hJ2.modJ hc2, hr1 z, hv z]
  refine v_istore C [(7, .int v2), (6, .int r), (5, .int iv), (4, .ref dx), (3, .ref ao), (2, .ref (am 0)), (1, .ref (ad 0 0)), (0, .ref b)] (by decide) rfl dL_law_695 ?_
  refine v_aload_n C 5 rfl rfl dL_law_697 ?_
  refine v_callVi C (st := []) [] ((thr_of l hA2 hx2).frmI hJ3.i2) ml_RL_120 mi_yX5_thrown (hx2 ▸ hJ3.km) (by decide) (by decide +kernel) rfl (Nat.le_of_ble_eq_true rfl) (Nat.le_of_ble_eq_true rfl) (Nat.le_of_ble_eq_true rfl) (by show _ + 0 ≤ 603072; omega) (by show _ + 0 ≤ 7207018; omega) dL_law_698 (fun r3 w3 h => ?_) _ rfl
  obtain ⟨u3, ⟨hr4, rfl⟩, hc3, rfl⟩ := h
  rw [fr_self hJ3.i2]
  refine v_iload C 1 rfl dL_law_701 ?_
  refine v_icmp_eq C 708 (by decide) dL_law_703 (fun c703 => ?_) (fun q => ((q (hr4.symm.trans hκ.symm) : False)).elim)
  refine v_iload C 1 rfl dL_law_708 ?_
  refine v_if_ne C 725 (by decide) dL_law_710 (fun hz => ?_) (fun hz => ?_)
  · refine v_goto C 1969 (by decide) dL_law_725 ?_
    exact V.sub [2, 3, 4, 5, 6, 7] rfl (kk _ _ _ ad1 am2 q1 _ _ _ hJ3 hx1 hx2 hI2 (Or.inl ⟨rfl, by omega, by omega⟩))
  · refine v_aload_n C 4 rfl rfl dL_law_713 ?_
    refine v_iconst C 0 (by decide) dL_law_714 ?_
    refine v_lald C v2.toInt64 hJ3.rao.1 (by rw [hJ3.rao.2.1]; unfold vp_in; decide) (hr3 hz) dL_law_715 ?_
    refine v_iload C 0 rfl dL_law_716 ?_
    refine v_i2l C dL_law_718 ?_
    refine v_lcmp C dL_law_719 ?_
    refine v_if_eq C 725 (by decide) dL_law_720 (fun c720 => ?_) (fun q => ((q (lg_cmp_rf _) : False)).elim)
    refine v_goto C 1969 (by decide) dL_law_725 ?_
    exact V.sub [2, 3, 4, 5, 6, 7] rfl (kk _ _ _ ad1 am2 q1 _ _ _ hJ3 hx1 hx2 hI2 (Or.inl ⟨rfl, by omega, by omega⟩))
set_option maxRecDepth 100000 in
set_option maxHeartbeats 4000000 in
theorem lw_clearBatch {l : Launch} {pP : Program} {eE : Env} {sS : State} {mM : MethodId} {aA : Array Value} {bB : List Frame} {tT : Method} {cC : Code} {G : GT} {A : Nat → Prop} {Q : State → Prop} (hlf : l.stackTraces = false) (C : Cx pP l eE room_1 sS mM aA bB tT cC cL_law 9 RL G A) {b L : Nat} {xs : Nat → Int32} (hX : va_X b L xs sS sS.heap) (hbl : b < sS.heap.size) (hbA : ¬ A b) (iv : Int32) (hin : ∀ z : Int32, z = 1 ∨ z = 2 ∨ z = 3 ∨ z = 4 → vp_in (iv + z) L) (w S1 S2 : HS) (ad : AD) (am : AM) (q : AS) (ao dx : Nat) (hJ : LJ w S1 S2 ad am q q ao dx) (B k n : Nat) (hI : INV q B) (hB : B ≤ 257) (hk : k + 1000 ≤ 603072) (hn : n + 30000 ≤ 7207018) (kk : ∀ (w' S1' S2' : HS) (ad' : AD) (am' : AM) (q' : AS) (B' k' n' : Nat), LJ w' S1' S2' ad' am' q' q' ao dx → ad' 0 0 = ad 0 0 → am' 0 = am 0 → INV q' B' → LB q q' B B' k n k' n' → V pP l eE room_1 sS mM aA bB tT cC 9 G A w' k' n' Q 1969 [(5, .int iv), (4, .ref dx), (3, .ref ao), (2, .ref (am 0)), (1, .ref (ad 0 0)), (0, .ref b)] []) : V pP l eE room_1 sS mM aA bB tT cC 9 G A w k n Q 728 [(5, .int iv), (4, .ref dx), (3, .ref ao), (2, .ref (am 0)), (1, .ref (ad 0 0)), (0, .ref b)] [] := by
  refine v_aload_n C 4 rfl rfl dL_law_728 ?_
  refine v_callVi C (st := []) [] ((c_X4_clearBatch l S1 ad q hI.1 hJ.hA hJ.hV).frmI hJ.i1) ml_RL_147 mi_yX4_clearBatch hJ.kx (by decide) (by decide +kernel) rfl (Nat.le_of_ble_eq_true rfl) (Nat.le_of_ble_eq_true rfl) (Nat.le_of_ble_eq_true rfl) (by show _ + 0 ≤ 603072; omega) (by show _ + 0 ≤ 7207018; omega) dL_law_729 (fun r w1 h => ?_) _ rfl
  obtain ⟨u1, ⟨hXA, hXV, hval⟩, hc1, rfl⟩ := h
  have hJ2 : LJ (fr S1 u1 w) u1 S2 ad am (cs q 0 0) q ao dx := hJ.cls hXA hXV hc1
  refine v_aload_n C 3 rfl rfl dL_law_732 ?_
  refine v_callVi C (st := [.int r]) [] ((c_X5_clearBatch l S2 am q hJ2.nA hJ2.nV).frmI hJ2.i2) ml_RL_150 mi_yX5_clearBatch hJ2.km (by decide) (by decide +kernel) rfl (Nat.le_of_ble_eq_true rfl) (Nat.le_of_ble_eq_true rfl) (Nat.le_of_ble_eq_true rfl) (by show _ + 0 ≤ 603072; omega) (by show _ + 0 ≤ 7207018; omega) dL_law_733 (fun v2 w2 h => ?_) _ rfl
  obtain ⟨u2, ⟨hXA2, hXV2, h61, hval2⟩, hc2, rfl⟩ := h
  have hJ3 : LJ (fr S2 u2 (fr S1 u1 w)) u1 u2 ad am (cs q 0 0) (cs q 0 0) ao dx := hJ2.mod hXA2 hXV2 hc2
  have hI2 : INV (cs q 0 0) B := clr_INV hI
  refine v_icmp_eq C 1969 (by decide) dL_law_736 (fun c736 => ?_) (fun q => ((q (hval.symm.trans hval2) : False)).elim)
  exact V.sub [0, 1, 2, 3, 4, 5] rfl (kk _ _ _ ad am (cs q 0 0) _ _ _ hJ3 rfl rfl hI2 (Or.inl ⟨rfl, by omega, by omega⟩))
set_option maxRecDepth 100000 in
set_option maxHeartbeats 4000000 in
theorem lw_process {l : Launch} {pP : Program} {eE : Env} {sS : State} {mM : MethodId} {aA : Array Value} {bB : List Frame} {tT : Method} {cC : Code} {G : GT} {A : Nat → Prop} {Q : State → Prop} (hlf : l.stackTraces = false) (C : Cx pP l eE room_1 sS mM aA bB tT cC cL_law 9 RL G A) {b L : Nat} {xs : Nat → Int32} (hX : va_X b L xs sS sS.heap) (hbl : b < sS.heap.size) (hbA : ¬ A b) (iv : Int32) (hin : ∀ z : Int32, z = 1 ∨ z = 2 ∨ z = 3 ∨ z = 4 → vp_in (iv + z) L) (w S1 S2 : HS) (ad : AD) (am : AM) (q : AS) (ao dx : Nat) (hJ : LJ w S1 S2 ad am q q ao dx) (B k n : Nat) (hI : INV q B) (hB : B ≤ 257) (hk : k + 1000 ≤ 603072) (hn : n + 30000 ≤ 7207018) (kk : ∀ (w' S1' S2' : HS) (ad' : AD) (am' : AM) (q' : AS) (B' k' n' : Nat), LJ w' S1' S2' ad' am' q' q' ao dx → ad' 0 0 = ad 0 0 → am' 0 = am 0 → INV q' B' → LB q q' B B' k n k' n' → V pP l eE room_1 sS mM aA bB tT cC 9 G A w' k' n' Q 1969 [(5, .int iv), (4, .ref dx), (3, .ref ao), (2, .ref (am 0)), (1, .ref (ad 0 0)), (0, .ref b)] []) : V pP l eE room_1 sS mM aA bB tT cC 9 G A w k n Q 741 [(5, .int iv), (4, .ref dx), (3, .ref ao), (2, .ref (am 0)), (1, .ref (ad 0 0)), (0, .ref b)] [] := by
  refine v_aload_n C 4 rfl rfl dL_law_741 ?_
  refine v_aload_n C 2 rfl rfl dL_law_742 ?_
  refine v_callSHi C (st := []) [.ref (ad 0 0), .ref ao] (c_L_process l w S1 hJ.i1 (ad 0 0) ao _ _ (c_X4_process l hlf S1 ad q hI.1 B hI.2.1 (by omega) hJ.hA hJ.hV) (fun E u hx => hx.1) hJ.kx hJ.rao.1 hJ.rao.2.1 hJ.rao.2.2.1) mlh_RL_151 rfl (Nat.le_of_ble_eq_true rfl) (Nat.le_of_ble_eq_true rfl) (Nat.le_of_ble_eq_true rfl) (by show _ + 8 ≤ 603072; omega) (by show _ + 2096 ≤ 7207018; omega) dL_law_743 (fun r w1 h => ?_) _ rfl
  obtain ⟨q1, v, u1, ad1, hR1, hA1, hV1, hx1, hc1, hw1⟩ := kc_process hJ.hA hJ.hV h
  have hJ1 : LJ (fr S1 u1 w) u1 S2 ad1 am q1 q ao dx := hJ.cls hA1 hV1 hc1
  have hJ2 : LJ w1 u1 S2 ad1 am q1 q ao dx := by
    rcases hw1 with ⟨-, rfl⟩ | ⟨-, rfl⟩
    · exact hJ1.rowJ
    · exact hJ1
  have hr1 : r = 0 → aJ w1 ao 0 = v.toInt64 := fun z => by
    rcases hw1 with ⟨-, rfl⟩ | ⟨h9, -⟩
    · exact (aJ_tJ1 0).trans (if_pos rfl)
    · exact absurd z h9
  refine v_istore C [(6, .int r), (5, .int iv), (4, .ref dx), (3, .ref ao), (2, .ref (am 0)), (1, .ref (ad 0 0)), (0, .ref b)] (by decide) rfl dL_law_746 ?_
  refine v_aload_n C 4 rfl rfl dL_law_748 ?_
  by_cases hq0 : cn q 0 = 0
  · refine v_callVi C (st := []) [] ((c_X5_process0 l S2 am q hI.1 hJ2.nA hJ2.nV hq0).frmI hJ2.i2) ml_RL_154 mi_yX5_process hJ2.km (by decide) (by decide +kernel) rfl (Nat.le_of_ble_eq_true rfl) (Nat.le_of_ble_eq_true rfl) (Nat.le_of_ble_eq_true rfl) (by show _ + 0 ≤ 603072; omega) (by show _ + 0 ≤ 7207018; omega) dL_law_749 (fun v2 w2 h => ?_) _ rfl
    obtain ⟨u2, hf2, hc2, rfl⟩ := h
    have hR2 : R_process q _ 0 q := Or.inr ⟨hf2.2, rfl, hq0⟩
    obtain ⟨am2, ha2⟩ : ∃ z, z = am := ⟨am, rfl⟩
    have hx2 : am2 0 = am 0 := by rw [ha2]
    have hA2 : NA u2 am2 (cn q 1) := by rw [ha2]; exact hf2.1.toA hJ2.nA
    have hV2 : NV u2 am2 q := by rw [ha2]; exact hf2.1.toV hJ2.nA hJ2.nV
    obtain ⟨hκ, hq, -⟩ := kf_process hR1 hR2
    rw [← hq] at hA2 hV2
    have hr0 : ¬ r = 0 := fun z => by rw [hκ, hf2.2] at z; exact absurd z (by decide)
    have hv : r = 0 → v = v2 := fun z => absurd z hr0
    have hI2 : INV q1 B := by rw [hq]; exact hI
    have hJ3 : LJ (fr S2 u2 w1) u1 u2 ad1 am2 q1 q1 ao dx := hJ2.mod hA2 hV2 hc2
    have hr3 : r = 0 → aJ (fr S2 u2 w1) ao 0 = v2.toInt64 := fun z => by
      rw [hJ2.modJ hc2, hr1 z, hv z]
    refine v_istore C [(7, .int v2), (6, .int r), (5, .int iv), (4, .ref dx), (3, .ref ao), (2, .ref (am 0)), (1, .ref (ad 0 0)), (0, .ref b)] (by decide) rfl dL_law_752 ?_
    refine v_aload_n C 5 rfl rfl dL_law_754 ?_
    refine v_callVi C (st := []) [] ((thr_of l hA2 hx2).frmI hJ3.i2) ml_RL_120 mi_yX5_thrown (hx2 ▸ hJ3.km) (by decide) (by decide +kernel) rfl (Nat.le_of_ble_eq_true rfl) (Nat.le_of_ble_eq_true rfl) (Nat.le_of_ble_eq_true rfl) (by show _ + 0 ≤ 603072; omega) (by show _ + 0 ≤ 7207018; omega) dL_law_755 (fun r3 w3 h => ?_) _ rfl
    obtain ⟨u3, ⟨hr4, rfl⟩, hc3, rfl⟩ := h
    rw [fr_self hJ3.i2]
    refine v_iload C 1 rfl dL_law_758 ?_
    refine v_icmp_eq C 765 (by decide) dL_law_760 (fun c760 => ?_) (fun q => ((q (hr4.symm.trans hκ.symm) : False)).elim)
    refine v_iload C 1 rfl dL_law_765 ?_
    refine v_if_ne C 782 (by decide) dL_law_767 (fun hz => ?_) (fun hz => ?_)
    · refine v_goto C 1969 (by decide) dL_law_782 ?_
      exact V.sub [2, 3, 4, 5, 6, 7] rfl (kk _ _ _ ad1 am2 q1 _ _ _ hJ3 hx1 hx2 hI2 (Or.inl ⟨rfl, by omega, by omega⟩))
    · refine v_aload_n C 4 rfl rfl dL_law_770 ?_
      refine v_iconst C 0 (by decide) dL_law_771 ?_
      refine v_lald C v2.toInt64 hJ3.rao.1 (by rw [hJ3.rao.2.1]; unfold vp_in; decide) (hr3 hz) dL_law_772 ?_
      refine v_iload C 0 rfl dL_law_773 ?_
      refine v_i2l C dL_law_775 ?_
      refine v_lcmp C dL_law_776 ?_
      refine v_if_eq C 782 (by decide) dL_law_777 (fun c777 => ?_) (fun q => ((q (lg_cmp_rf _) : False)).elim)
      refine v_goto C 1969 (by decide) dL_law_782 ?_
      exact V.sub [2, 3, 4, 5, 6, 7] rfl (kk _ _ _ ad1 am2 q1 _ _ _ hJ3 hx1 hx2 hI2 (Or.inl ⟨rfl, by omega, by omega⟩))
  · refine v_callVi C (st := []) [] ((c_X5_process l S2 am q hI.1 hJ2.nA hJ2.nV B hI.2.1 (by omega) hI.2.2.2.1 hI.2.2.1).frmI hJ2.i2) ml_RL_154 mi_yX5_process hJ2.km (by decide) (by decide +kernel) rfl (Nat.le_of_ble_eq_true rfl) (Nat.le_of_ble_eq_true rfl) (Nat.le_of_ble_eq_true rfl) (by show _ + 36 ≤ 603072; omega) (by show _ + 21152 ≤ 7207018; omega) dL_law_749 (fun v2 w2 h => ?_) _ rfl
    obtain ⟨u2, hf2, hc2, rfl⟩ := h
    rcases hf2 with ⟨-, am2, hx2, hA2, hV2, hk2, hval2⟩ | ⟨hz9, -⟩
    case inr => exact absurd hz9 hq0
    have hR2 : R_process q _ v2 (prA q) := Or.inl ⟨hk2, hq0, rfl, hval2⟩
    obtain ⟨hκ, hq, hv⟩ := kf_process hR1 hR2
    rw [← hq] at hA2 hV2
    have hI2 : INV q1 (B + 1) := by rw [hq]; exact pr_INV hI (by omega)
    have hbq : bF q1 = 0 := by rw [hq]; exact bF_pr q
    have hJ3 : LJ (fr S2 u2 w1) u1 u2 ad1 am2 q1 q1 ao dx := hJ2.mod hA2 hV2 hc2
    have hr3 : r = 0 → aJ (fr S2 u2 w1) ao 0 = v2.toInt64 := fun z => by
      rw [hJ2.modJ hc2, hr1 z, hv z]
    refine v_istore C [(7, .int v2), (6, .int r), (5, .int iv), (4, .ref dx), (3, .ref ao), (2, .ref (am 0)), (1, .ref (ad 0 0)), (0, .ref b)] (by decide) rfl dL_law_752 ?_
    refine v_aload_n C 5 rfl rfl dL_law_754 ?_
    refine v_callVi C (st := []) [] ((thr_of l hA2 hx2).frmI hJ3.i2) ml_RL_120 mi_yX5_thrown (hx2 ▸ hJ3.km) (by decide) (by decide +kernel) rfl (Nat.le_of_ble_eq_true rfl) (Nat.le_of_ble_eq_true rfl) (Nat.le_of_ble_eq_true rfl) (by show _ + 0 ≤ 603072; omega) (by show _ + 0 ≤ 7207018; omega) dL_law_755 (fun r3 w3 h => ?_) _ rfl
    obtain ⟨u3, ⟨hr4, rfl⟩, hc3, rfl⟩ := h
    rw [fr_self hJ3.i2]
    refine v_iload C 1 rfl dL_law_758 ?_
    refine v_icmp_eq C 765 (by decide) dL_law_760 (fun c760 => ?_) (fun q => ((q (hr4.symm.trans hκ.symm) : False)).elim)
    refine v_iload C 1 rfl dL_law_765 ?_
    refine v_if_ne C 782 (by decide) dL_law_767 (fun hz => ?_) (fun hz => ?_)
    · refine v_goto C 1969 (by decide) dL_law_782 ?_
      exact V.sub [2, 3, 4, 5, 6, 7] rfl (kk _ _ _ ad1 am2 q1 _ _ _ hJ3 hx1 hx2 hI2 (Or.inr ⟨rfl, bF_1 hq0, hbq, by omega, by omega⟩))
    · refine v_aload_n C 4 rfl rfl dL_law_770 ?_
      refine v_iconst C 0 (by decide) dL_law_771 ?_
      refine v_lald C v2.toInt64 hJ3.rao.1 (by rw [hJ3.rao.2.1]; unfold vp_in; decide) (hr3 hz) dL_law_772 ?_
      refine v_iload C 0 rfl dL_law_773 ?_
      refine v_i2l C dL_law_775 ?_
      refine v_lcmp C dL_law_776 ?_
      refine v_if_eq C 782 (by decide) dL_law_777 (fun c777 => ?_) (fun q => ((q (lg_cmp_rf _) : False)).elim)
      refine v_goto C 1969 (by decide) dL_law_782 ?_
      exact V.sub [2, 3, 4, 5, 6, 7] rfl (kk _ _ _ ad1 am2 q1 _ _ _ hJ3 hx1 hx2 hI2 (Or.inr ⟨rfl, bF_1 hq0, hbq, by omega, by omega⟩))
set_option maxRecDepth 100000 in
set_option maxHeartbeats 4000000 in
theorem lw_batch {l : Launch} {pP : Program} {eE : Env} {sS : State} {mM : MethodId} {aA : Array Value} {bB : List Frame} {tT : Method} {cC : Code} {G : GT} {A : Nat → Prop} {Q : State → Prop} (hlf : l.stackTraces = false) (C : Cx pP l eE room_1 sS mM aA bB tT cC cL_law 9 RL G A) {b L : Nat} {xs : Nat → Int32} (hX : va_X b L xs sS sS.heap) (hbl : b < sS.heap.size) (hbA : ¬ A b) (iv : Int32) (hin : ∀ z : Int32, z = 1 ∨ z = 2 ∨ z = 3 ∨ z = 4 → vp_in (iv + z) L) (w S1 S2 : HS) (ad : AD) (am : AM) (q : AS) (ao dx : Nat) (hJ : LJ w S1 S2 ad am q q ao dx) (B k n : Nat) (hI : INV q B) (hB : B ≤ 257) (hk : k + 1000 ≤ 603072) (hn : n + 30000 ≤ 7207018) (kk : ∀ (w' S1' S2' : HS) (ad' : AD) (am' : AM) (q' : AS) (B' k' n' : Nat), LJ w' S1' S2' ad' am' q' q' ao dx → ad' 0 0 = ad 0 0 → am' 0 = am 0 → INV q' B' → LB q q' B B' k n k' n' → V pP l eE room_1 sS mM aA bB tT cC 9 G A w' k' n' Q 1969 [(5, .int iv), (4, .ref dx), (3, .ref ao), (2, .ref (am 0)), (1, .ref (ad 0 0)), (0, .ref b)] []) : V pP l eE room_1 sS mM aA bB tT cC 9 G A w k n Q 785 [(5, .int iv), (4, .ref dx), (3, .ref ao), (2, .ref (am 0)), (1, .ref (ad 0 0)), (0, .ref b)] [] := by
  refine v_aload_n C 4 rfl rfl dL_law_785 ?_
  refine v_callVi C (st := []) [] ((c_X4_batch l S1 ad q hI.1 hJ.hA hJ.hV).frmI hJ.i1) ml_RL_155 mi_yX4_batch hJ.kx (by decide) (by decide +kernel) rfl (Nat.le_of_ble_eq_true rfl) (Nat.le_of_ble_eq_true rfl) (Nat.le_of_ble_eq_true rfl) (by show _ + 0 ≤ 603072; omega) (by show _ + 0 ≤ 7207018; omega) dL_law_786 (fun r w1 h => ?_) _ rfl
  obtain ⟨u1, ⟨hval, rfl⟩, hc1, rfl⟩ := h
  rw [fr_self hJ.i1]
  have hJ2 : LJ w S1 S2 ad am q q ao dx := hJ
  refine v_aload_n C 3 rfl rfl dL_law_789 ?_
  refine v_callVi C (st := [.int r]) [] ((c_X5_batch l S2 am q hJ2.nA hJ2.nV).frmI hJ2.i2) ml_RL_158 mi_yX5_batch hJ2.km (by decide) (by decide +kernel) rfl (Nat.le_of_ble_eq_true rfl) (Nat.le_of_ble_eq_true rfl) (Nat.le_of_ble_eq_true rfl) (by show _ + 0 ≤ 603072; omega) (by show _ + 0 ≤ 7207018; omega) dL_law_790 (fun v2 w2 h => ?_) _ rfl
  obtain ⟨u2, ⟨hF2, h61, hval2⟩, hc2, rfl⟩ := h
  have hJ3 : LJ (fr S2 u2 w) S1 u2 ad am q q ao dx := hJ2.mod (hF2.toA hJ2.nA) (hF2.toV hJ2.nA hJ2.nV) hc2
  have hI2 : INV q B := hI
  refine v_icmp_eq C 1969 (by decide) dL_law_793 (fun c793 => ?_) (fun q => ((q (hval.symm.trans hval2) : False)).elim)
  exact V.sub [0, 1, 2, 3, 4, 5] rfl (kk _ _ _ ad am q _ _ _ hJ3 rfl rfl hI2 (Or.inl ⟨rfl, by omega, by omega⟩))
set_option maxRecDepth 100000 in
set_option maxHeartbeats 4000000 in
theorem lw_distance {l : Launch} {pP : Program} {eE : Env} {sS : State} {mM : MethodId} {aA : Array Value} {bB : List Frame} {tT : Method} {cC : Code} {G : GT} {A : Nat → Prop} {Q : State → Prop} (hlf : l.stackTraces = false) (C : Cx pP l eE room_1 sS mM aA bB tT cC cL_law 9 RL G A) {b L : Nat} {xs : Nat → Int32} (hX : va_X b L xs sS sS.heap) (hbl : b < sS.heap.size) (hbA : ¬ A b) (iv : Int32) (hin : ∀ z : Int32, z = 1 ∨ z = 2 ∨ z = 3 ∨ z = 4 → vp_in (iv + z) L) (w S1 S2 : HS) (ad : AD) (am : AM) (q : AS) (ao dx : Nat) (hJ : LJ w S1 S2 ad am q q ao dx) (B k n : Nat) (hI : INV q B) (hB : B ≤ 257) (hk : k + 1000 ≤ 603072) (hn : n + 30000 ≤ 7207018) (kk : ∀ (w' S1' S2' : HS) (ad' : AD) (am' : AM) (q' : AS) (B' k' n' : Nat), LJ w' S1' S2' ad' am' q' q' ao dx → ad' 0 0 = ad 0 0 → am' 0 = am 0 → INV q' B' → LB q q' B B' k n k' n' → V pP l eE room_1 sS mM aA bB tT cC 9 G A w' k' n' Q 1969 [(5, .int iv), (4, .ref dx), (3, .ref ao), (2, .ref (am 0)), (1, .ref (ad 0 0)), (0, .ref b)] []) : V pP l eE room_1 sS mM aA bB tT cC 9 G A w k n Q 798 [(5, .int iv), (4, .ref dx), (3, .ref ao), (2, .ref (am 0)), (1, .ref (ad 0 0)), (0, .ref b)] [] := by
  have h1 := hin 1 (by decide)
  obtain ⟨a1, e1⟩ : ∃ z, xs (iv + 1).toNatClampNeg = z := ⟨_, rfl⟩
  have h2 := hin 2 (by decide)
  obtain ⟨a2, e2⟩ : ∃ z, xs (iv + 2).toNatClampNeg = z := ⟨_, rfl⟩
  refine v_aload_n C 4 rfl rfl dL_law_798 ?_
  refine v_aload_n C 5 rfl rfl dL_law_799 ?_
  refine v_iload C 0 rfl dL_law_800 ?_
  refine v_iconst C 1 (by decide) dL_law_802 ?_
  refine v_iadd C dL_law_803 ?_
  refine v_sld C hX hbl hbA h1 e1 dL_law_804 ?_
  refine v_aload_n C 5 rfl rfl dL_law_805 ?_
  refine v_iload C 0 rfl dL_law_806 ?_
  refine v_iconst C 2 (by decide) dL_law_808 ?_
  refine v_iadd C dL_law_809 ?_
  refine v_sld C hX hbl hbA h2 e2 dL_law_810 ?_
  refine v_aload_n C 2 rfl rfl dL_law_811 ?_
  refine v_callSHi C (st := []) [.ref (ad 0 0), .int a1, .int a2, .ref ao] (c_L_distance l w S1 hJ.i1 (ad 0 0) ao a1 a2 _ _ (c_X4_distance l hlf S1 ad q hI.1 hJ.hA hJ.hV a1 a2) (fun E u hx => hx.2.imp And.left And.left) hJ.kx hJ.rao.1 hJ.rao.2.1 hJ.rao.2.2.1) mlh_RL_159 rfl (Nat.le_of_ble_eq_true rfl) (Nat.le_of_ble_eq_true rfl) (Nat.le_of_ble_eq_true rfl) (by show _ + 2 ≤ 603072; omega) (by show _ + 12 ≤ 7207018; omega) dL_law_812 (fun r w1 h => ?_) _ rfl
  obtain ⟨q1, v, u1, ad1, hR1, hA1, hV1, hx1, hc1, hw1⟩ := kc_distance hJ.hA hJ.hV a1 a2 h
  have hJ1 : LJ (fr S1 u1 w) u1 S2 ad1 am q1 q ao dx := hJ.cls hA1 hV1 hc1
  have hJ2 : LJ w1 u1 S2 ad1 am q1 q ao dx := by
    rcases hw1 with ⟨-, rfl⟩ | ⟨-, rfl⟩
    · exact hJ1.rowJ
    · exact hJ1
  have hr1 : r = 0 → aJ w1 ao 0 = v := fun z => by
    rcases hw1 with ⟨-, rfl⟩ | ⟨h9, -⟩
    · exact (aJ_tJ1 0).trans (if_pos rfl)
    · exact absurd z h9
  refine v_istore C [(6, .int r), (5, .int iv), (4, .ref dx), (3, .ref ao), (2, .ref (am 0)), (1, .ref (ad 0 0)), (0, .ref b)] (by decide) rfl dL_law_815 ?_
  refine v_aload_n C 4 rfl rfl dL_law_817 ?_
  refine v_aload_n C 6 rfl rfl dL_law_818 ?_
  refine v_iload C 1 rfl dL_law_819 ?_
  refine v_iconst C 1 (by decide) dL_law_821 ?_
  refine v_iadd C dL_law_822 ?_
  refine v_sld C hX hbl hbA h1 e1 dL_law_823 ?_
  refine v_aload_n C 6 rfl rfl dL_law_824 ?_
  refine v_iload C 1 rfl dL_law_825 ?_
  refine v_iconst C 2 (by decide) dL_law_827 ?_
  refine v_iadd C dL_law_828 ?_
  refine v_sld C hX hbl hbA h2 e2 dL_law_829 ?_
  refine v_callVl C (st := []) [.int a1, .int a2] ((c_X5_distance l S2 am q hI.1 hJ2.nA hJ2.nV a1 a2).frmL hJ2.i2) ml_RL_161 mi_yX5_distance hJ2.km (by decide) (by decide +kernel) rfl (Nat.le_of_ble_eq_true rfl) (Nat.le_of_ble_eq_true rfl) (Nat.le_of_ble_eq_true rfl) (by show _ + 0 ≤ 603072; omega) (by show _ + 0 ≤ 7207018; omega) dL_law_830 (fun v2 w2 h => ?_) _ rfl
  obtain ⟨u2, hf2, hc2, rfl⟩ := h
  obtain ⟨q2, am2, hR2, hA2, hV2, hx2⟩ := km_distance hJ2.nA hJ2.nV a1 a2 hf2
  obtain ⟨hκ, hq, hv⟩ := kf_distance hI.1 a1 a2 hR1 hR2
  have hI2 := ki_distance hI a1 a2 hR1
  subst hq
  have hJ3 : LJ (fr S2 u2 w1) u1 u2 ad1 am2 q1 q1 ao dx := hJ2.mod hA2 hV2 hc2
  have hr3 : r = 0 → aJ (fr S2 u2 w1) ao 0 = v2 := fun z => by
    rw [hJ2.modJ hc2, hr1 z, hv z]
  refine v_lstore C [(7, .long v2), (6, .int r), (5, .int iv), (4, .ref dx), (3, .ref ao), (2, .ref (am 0)), (1, .ref (ad 0 0)), (0, .ref b)] (by decide) rfl dL_law_833 ?_
  refine v_aload_n C 5 rfl rfl dL_law_835 ?_
  refine v_callVi C (st := []) [] ((thr_of l hA2 hx2).frmI hJ3.i2) ml_RL_120 mi_yX5_thrown (hx2 ▸ hJ3.km) (by decide) (by decide +kernel) rfl (Nat.le_of_ble_eq_true rfl) (Nat.le_of_ble_eq_true rfl) (Nat.le_of_ble_eq_true rfl) (by show _ + 0 ≤ 603072; omega) (by show _ + 0 ≤ 7207018; omega) dL_law_836 (fun r3 w3 h => ?_) _ rfl
  obtain ⟨u3, ⟨hr4, rfl⟩, hc3, rfl⟩ := h
  rw [fr_self hJ3.i2]
  refine v_iload C 1 rfl dL_law_839 ?_
  refine v_icmp_eq C 846 (by decide) dL_law_841 (fun c841 => ?_) (fun q => ((q (hr4.symm.trans hκ.symm) : False)).elim)
  refine v_iload C 1 rfl dL_law_846 ?_
  refine v_if_ne C 862 (by decide) dL_law_848 (fun hz => ?_) (fun hz => ?_)
  · refine v_goto C 1969 (by decide) dL_law_862 ?_
    exact V.sub [2, 3, 4, 5, 6, 7] rfl (kk _ _ _ ad1 am2 q1 _ _ _ hJ3 hx1 hx2 hI2 (Or.inl ⟨rfl, by omega, by omega⟩))
  · refine v_aload_n C 4 rfl rfl dL_law_851 ?_
    refine v_iconst C 0 (by decide) dL_law_852 ?_
    refine v_lald C v2 hJ3.rao.1 (by rw [hJ3.rao.2.1]; unfold vp_in; decide) (hr3 hz) dL_law_853 ?_
    refine v_lload C 0 rfl dL_law_854 ?_
    refine v_lcmp C dL_law_856 ?_
    refine v_if_eq C 862 (by decide) dL_law_857 (fun c857 => ?_) (fun q => ((q (lg_cmp_rf _) : False)).elim)
    refine v_goto C 1969 (by decide) dL_law_862 ?_
    exact V.sub [2, 3, 4, 5, 6, 7] rfl (kk _ _ _ ad1 am2 q1 _ _ _ hJ3 hx1 hx2 hI2 (Or.inl ⟨rfl, by omega, by omega⟩))
set_option maxRecDepth 100000 in
set_option maxHeartbeats 4000000 in
theorem lw_canTake {l : Launch} {pP : Program} {eE : Env} {sS : State} {mM : MethodId} {aA : Array Value} {bB : List Frame} {tT : Method} {cC : Code} {G : GT} {A : Nat → Prop} {Q : State → Prop} (hlf : l.stackTraces = false) (C : Cx pP l eE room_1 sS mM aA bB tT cC cL_law 9 RL G A) {b L : Nat} {xs : Nat → Int32} (hX : va_X b L xs sS sS.heap) (hbl : b < sS.heap.size) (hbA : ¬ A b) (iv : Int32) (hin : ∀ z : Int32, z = 1 ∨ z = 2 ∨ z = 3 ∨ z = 4 → vp_in (iv + z) L) (w S1 S2 : HS) (ad : AD) (am : AM) (q : AS) (ao dx : Nat) (hJ : LJ w S1 S2 ad am q q ao dx) (B k n : Nat) (hI : INV q B) (hB : B ≤ 257) (hk : k + 1000 ≤ 603072) (hn : n + 30000 ≤ 7207018) (kk : ∀ (w' S1' S2' : HS) (ad' : AD) (am' : AM) (q' : AS) (B' k' n' : Nat), LJ w' S1' S2' ad' am' q' q' ao dx → ad' 0 0 = ad 0 0 → am' 0 = am 0 → INV q' B' → LB q q' B B' k n k' n' → V pP l eE room_1 sS mM aA bB tT cC 9 G A w' k' n' Q 1969 [(5, .int iv), (4, .ref dx), (3, .ref ao), (2, .ref (am 0)), (1, .ref (ad 0 0)), (0, .ref b)] []) : V pP l eE room_1 sS mM aA bB tT cC 9 G A w k n Q 865 [(5, .int iv), (4, .ref dx), (3, .ref ao), (2, .ref (am 0)), (1, .ref (ad 0 0)), (0, .ref b)] [] := by
  have h1 := hin 1 (by decide)
  obtain ⟨a1, e1⟩ : ∃ z, xs (iv + 1).toNatClampNeg = z := ⟨_, rfl⟩
  have h2 := hin 2 (by decide)
  obtain ⟨a2, e2⟩ : ∃ z, xs (iv + 2).toNatClampNeg = z := ⟨_, rfl⟩
  refine v_aload_n C 4 rfl rfl dL_law_865 ?_
  refine v_aload_n C 5 rfl rfl dL_law_866 ?_
  refine v_iload C 0 rfl dL_law_867 ?_
  refine v_iconst C 1 (by decide) dL_law_869 ?_
  refine v_iadd C dL_law_870 ?_
  refine v_sld C hX hbl hbA h1 e1 dL_law_871 ?_
  refine v_aload_n C 5 rfl rfl dL_law_872 ?_
  refine v_iload C 0 rfl dL_law_873 ?_
  refine v_iconst C 2 (by decide) dL_law_875 ?_
  refine v_iadd C dL_law_876 ?_
  refine v_sld C hX hbl hbA h2 e2 dL_law_877 ?_
  refine v_aload_n C 2 rfl rfl dL_law_878 ?_
  refine v_callSHi C (st := []) [.ref (ad 0 0), .int a1, .int a2, .ref ao] (c_L_canTake l w S1 hJ.i1 (ad 0 0) ao a1 a2 _ _ (c_X4_canTake l hlf S1 ad q hI.1 hJ.hA hJ.hV a1 a2) (fun E u hx => hx.2.imp And.left And.left) hJ.kx hJ.rao.1 hJ.rao.2.1 hJ.rao.2.2.1) mlh_RL_162 rfl (Nat.le_of_ble_eq_true rfl) (Nat.le_of_ble_eq_true rfl) (Nat.le_of_ble_eq_true rfl) (by show _ + 2 ≤ 603072; omega) (by show _ + 12 ≤ 7207018; omega) dL_law_879 (fun r w1 h => ?_) _ rfl
  obtain ⟨q1, v, u1, ad1, hR1, hA1, hV1, hx1, hc1, hw1⟩ := kc_canTake hJ.hA hJ.hV a1 a2 h
  have hJ1 : LJ (fr S1 u1 w) u1 S2 ad1 am q1 q ao dx := hJ.cls hA1 hV1 hc1
  have hJ2 : LJ w1 u1 S2 ad1 am q1 q ao dx := by
    rcases hw1 with ⟨-, rfl⟩ | ⟨-, rfl⟩
    · exact hJ1.rowJ
    · exact hJ1
  have hr1 : r = 0 → aJ w1 ao 0 = (if v = 0 then 0 else 1) := fun z => by
    rcases hw1 with ⟨-, rfl⟩ | ⟨h9, -⟩
    · exact (aJ_tJ1 0).trans (if_pos rfl)
    · exact absurd z h9
  refine v_istore C [(6, .int r), (5, .int iv), (4, .ref dx), (3, .ref ao), (2, .ref (am 0)), (1, .ref (ad 0 0)), (0, .ref b)] (by decide) rfl dL_law_882 ?_
  refine v_aload_n C 4 rfl rfl dL_law_884 ?_
  refine v_aload_n C 6 rfl rfl dL_law_885 ?_
  refine v_iload C 1 rfl dL_law_886 ?_
  refine v_iconst C 1 (by decide) dL_law_888 ?_
  refine v_iadd C dL_law_889 ?_
  refine v_sld C hX hbl hbA h1 e1 dL_law_890 ?_
  refine v_aload_n C 6 rfl rfl dL_law_891 ?_
  refine v_iload C 1 rfl dL_law_892 ?_
  refine v_iconst C 2 (by decide) dL_law_894 ?_
  refine v_iadd C dL_law_895 ?_
  refine v_sld C hX hbl hbA h2 e2 dL_law_896 ?_
  refine v_callVi C (st := []) [.int a1, .int a2] ((c_X5_canTake l S2 am q hI.1 hJ2.nA hJ2.nV a1 a2).frmI hJ2.i2) ml_RL_164 mi_yX5_canTake hJ2.km (by decide) (by decide +kernel) rfl (Nat.le_of_ble_eq_true rfl) (Nat.le_of_ble_eq_true rfl) (Nat.le_of_ble_eq_true rfl) (by show _ + 0 ≤ 603072; omega) (by show _ + 0 ≤ 7207018; omega) dL_law_897 (fun v2 w2 h => ?_) _ rfl
  obtain ⟨u2, hf2, hc2, rfl⟩ := h
  obtain ⟨q2, am2, hR2, hA2, hV2, hx2⟩ := km_canTake hJ2.nA hJ2.nV a1 a2 hf2
  obtain ⟨hκ, hq, hv⟩ := kf_canTake hI.1 a1 a2 hR1 hR2
  have hI2 := ki_canTake hI a1 a2 hR1
  subst hq
  have hJ3 : LJ (fr S2 u2 w1) u1 u2 ad1 am2 q1 q1 ao dx := hJ2.mod hA2 hV2 hc2
  have hr3 : r = 0 → aJ (fr S2 u2 w1) ao 0 = (if v2 = 0 then 0 else 1) := fun z => by
    rw [hJ2.modJ hc2, hr1 z, hv z]
  refine v_istore C [(7, .int v2), (6, .int r), (5, .int iv), (4, .ref dx), (3, .ref ao), (2, .ref (am 0)), (1, .ref (ad 0 0)), (0, .ref b)] (by decide) rfl dL_law_900 ?_
  refine v_aload_n C 5 rfl rfl dL_law_902 ?_
  refine v_callVi C (st := []) [] ((thr_of l hA2 hx2).frmI hJ3.i2) ml_RL_120 mi_yX5_thrown (hx2 ▸ hJ3.km) (by decide) (by decide +kernel) rfl (Nat.le_of_ble_eq_true rfl) (Nat.le_of_ble_eq_true rfl) (Nat.le_of_ble_eq_true rfl) (by show _ + 0 ≤ 603072; omega) (by show _ + 0 ≤ 7207018; omega) dL_law_903 (fun r3 w3 h => ?_) _ rfl
  obtain ⟨u3, ⟨hr4, rfl⟩, hc3, rfl⟩ := h
  rw [fr_self hJ3.i2]
  refine v_iload C 1 rfl dL_law_906 ?_
  refine v_icmp_eq C 913 (by decide) dL_law_908 (fun c908 => ?_) (fun q => ((q (hr4.symm.trans hκ.symm) : False)).elim)
  refine v_iload C 1 rfl dL_law_913 ?_
  refine v_if_ne C 937 (by decide) dL_law_915 (fun hz => ?_) (fun hz => ?_)
  · refine v_goto C 1969 (by decide) dL_law_937 ?_
    exact V.sub [2, 3, 4, 5, 6, 7] rfl (kk _ _ _ ad1 am2 q1 _ _ _ hJ3 hx1 hx2 hI2 (Or.inl ⟨rfl, by omega, by omega⟩))
  · refine v_aload_n C 4 rfl rfl dL_law_918 ?_
    refine v_iconst C 0 (by decide) dL_law_919 ?_
    refine v_lald C (if v2 = 0 then 0 else 1) hJ3.rao.1 (by rw [hJ3.rao.2.1]; unfold vp_in; decide) (hr3 hz) dL_law_920 ?_
    refine v_iload C 0 rfl dL_law_921 ?_
    refine v_if_eq C 930 (by decide) dL_law_923 (fun c923 => ?_) (fun c923 => ?_)
    · refine v_lconst C 0 (by decide) dL_law_930 ?_
      refine v_lcmp C dL_law_931 ?_
      rw [if_pos c923]
      refine v_if_eq C 937 (by decide) dL_law_932 (fun c932 => ?_) (fun q => ((q (lg_cmp_rf _) : False)).elim)
      refine v_goto C 1969 (by decide) dL_law_937 ?_
      exact V.sub [2, 3, 4, 5, 6, 7] rfl (kk _ _ _ ad1 am2 q1 _ _ _ hJ3 hx1 hx2 hI2 (Or.inl ⟨rfl, by omega, by omega⟩))
    · refine v_lconst C 1 (by decide) dL_law_926 ?_
      refine v_goto C 931 (by decide) dL_law_927 ?_
      refine v_lcmp C dL_law_931 ?_
      rw [if_neg c923]
      refine v_if_eq C 937 (by decide) dL_law_932 (fun c932 => ?_) (fun q => ((q (lg_cmp_rf _) : False)).elim)
      refine v_goto C 1969 (by decide) dL_law_937 ?_
      exact V.sub [2, 3, 4, 5, 6, 7] rfl (kk _ _ _ ad1 am2 q1 _ _ _ hJ3 hx1 hx2 hI2 (Or.inl ⟨rfl, by omega, by omega⟩))
set_option maxRecDepth 100000 in
set_option maxHeartbeats 4000000 in
theorem lw_bestCost {l : Launch} {pP : Program} {eE : Env} {sS : State} {mM : MethodId} {aA : Array Value} {bB : List Frame} {tT : Method} {cC : Code} {G : GT} {A : Nat → Prop} {Q : State → Prop} (hlf : l.stackTraces = false) (C : Cx pP l eE room_1 sS mM aA bB tT cC cL_law 9 RL G A) {b L : Nat} {xs : Nat → Int32} (hX : va_X b L xs sS sS.heap) (hbl : b < sS.heap.size) (hbA : ¬ A b) (iv : Int32) (hin : ∀ z : Int32, z = 1 ∨ z = 2 ∨ z = 3 ∨ z = 4 → vp_in (iv + z) L) (w S1 S2 : HS) (ad : AD) (am : AM) (q : AS) (ao dx : Nat) (hJ : LJ w S1 S2 ad am q q ao dx) (B k n : Nat) (hI : INV q B) (hB : B ≤ 257) (hk : k + 1000 ≤ 603072) (hn : n + 30000 ≤ 7207018) (kk : ∀ (w' S1' S2' : HS) (ad' : AD) (am' : AM) (q' : AS) (B' k' n' : Nat), LJ w' S1' S2' ad' am' q' q' ao dx → ad' 0 0 = ad 0 0 → am' 0 = am 0 → INV q' B' → LB q q' B B' k n k' n' → V pP l eE room_1 sS mM aA bB tT cC 9 G A w' k' n' Q 1969 [(5, .int iv), (4, .ref dx), (3, .ref ao), (2, .ref (am 0)), (1, .ref (ad 0 0)), (0, .ref b)] []) : V pP l eE room_1 sS mM aA bB tT cC 9 G A w k n Q 940 [(5, .int iv), (4, .ref dx), (3, .ref ao), (2, .ref (am 0)), (1, .ref (ad 0 0)), (0, .ref b)] [] := by
  refine v_aload_n C 4 rfl rfl dL_law_940 ?_
  refine v_callVl C (st := []) [] ((c_X4_bestCost l S1 ad q hJ.hA hJ.hV hI.1).frmL hJ.i1) ml_RL_165 mi_yX4_bestCost hJ.kx (by decide) (by decide +kernel) rfl (Nat.le_of_ble_eq_true rfl) (Nat.le_of_ble_eq_true rfl) (Nat.le_of_ble_eq_true rfl) (by show _ + 0 ≤ 603072; omega) (by show _ + 0 ≤ 7207018; omega) dL_law_941 (fun r w1 h => ?_) _ rfl
  obtain ⟨u1, ⟨hF, hval⟩, hc1, rfl⟩ := h
  have hJ2 : LJ (fr S1 u1 w) u1 S2 ad am q q ao dx := hJ.cls (hF.toA hJ.hA) (hF.toV hJ.hA hJ.hV) hc1
  refine v_aload_n C 3 rfl rfl dL_law_944 ?_
  refine v_callVl C (st := [.long r]) [] ((c_X5_bestCost l S2 am q hI.1 hJ2.nA hJ2.nV).frmL hJ2.i2) ml_RL_169 mi_yX5_bestCost hJ2.km (by decide) (by decide +kernel) rfl (Nat.le_of_ble_eq_true rfl) (Nat.le_of_ble_eq_true rfl) (Nat.le_of_ble_eq_true rfl) (by show _ + 0 ≤ 603072; omega) (by show _ + 0 ≤ 7207018; omega) dL_law_945 (fun v2 w2 h => ?_) _ rfl
  obtain ⟨u2, ⟨hF2, h61, hval2⟩, hc2, rfl⟩ := h
  have hJ3 : LJ (fr S2 u2 (fr S1 u1 w)) u1 u2 ad am q q ao dx := hJ2.mod (hF2.toA hJ2.nA) (hF2.toV hJ2.nA hJ2.nV) hc2
  have hI2 : INV q B := hI
  refine v_lcmp C dL_law_948 ?_
  refine v_if_eq C 1969 (by decide) dL_law_949 (fun c949 => ?_) (fun q => ((q (by rw [← hval, ← hval2]; exact lg_cmp_rf _) : False)).elim)
  exact V.sub [0, 1, 2, 3, 4, 5] rfl (kk _ _ _ ad am q _ _ _ hJ3 rfl rfl hI2 (Or.inl ⟨rfl, by omega, by omega⟩))
set_option maxRecDepth 100000 in
set_option maxHeartbeats 4000000 in
theorem lw_bestCostByTrying {l : Launch} {pP : Program} {eE : Env} {sS : State} {mM : MethodId} {aA : Array Value} {bB : List Frame} {tT : Method} {cC : Code} {G : GT} {A : Nat → Prop} {Q : State → Prop} (hlf : l.stackTraces = false) (C : Cx pP l eE room_1 sS mM aA bB tT cC cL_law 9 RL G A) {b L : Nat} {xs : Nat → Int32} (hX : va_X b L xs sS sS.heap) (hbl : b < sS.heap.size) (hbA : ¬ A b) (iv : Int32) (hin : ∀ z : Int32, z = 1 ∨ z = 2 ∨ z = 3 ∨ z = 4 → vp_in (iv + z) L) (w S1 S2 : HS) (ad : AD) (am : AM) (q : AS) (ao dx : Nat) (hJ : LJ w S1 S2 ad am q q ao dx) (B k n : Nat) (hI : INV q B) (hB : B ≤ 257) (hk : k + 1000 ≤ 603072) (hn : n + 30000 ≤ 7207018) (kk : ∀ (w' S1' S2' : HS) (ad' : AD) (am' : AM) (q' : AS) (B' k' n' : Nat), LJ w' S1' S2' ad' am' q' q' ao dx → ad' 0 0 = ad 0 0 → am' 0 = am 0 → INV q' B' → LB q q' B B' k n k' n' → V pP l eE room_1 sS mM aA bB tT cC 9 G A w' k' n' Q 1969 [(5, .int iv), (4, .ref dx), (3, .ref ao), (2, .ref (am 0)), (1, .ref (ad 0 0)), (0, .ref b)] []) : V pP l eE room_1 sS mM aA bB tT cC 9 G A w k n Q 954 [(5, .int iv), (4, .ref dx), (3, .ref ao), (2, .ref (am 0)), (1, .ref (ad 0 0)), (0, .ref b)] [] := by
  refine v_aload_n C 4 rfl rfl dL_law_954 ?_
  refine v_callVl C (st := []) [] ((c_X4_bestCostByTrying l S1 ad q hJ.hA hJ.hV hI.1).frmL hJ.i1) ml_RL_170 mi_yX4_bestCostByTrying hJ.kx (by decide) (by decide +kernel) rfl (Nat.le_of_ble_eq_true rfl) (Nat.le_of_ble_eq_true rfl) (Nat.le_of_ble_eq_true rfl) (by show _ + 0 ≤ 603072; omega) (by show _ + 0 ≤ 7207018; omega) dL_law_955 (fun r w1 h => ?_) _ rfl
  obtain ⟨u1, ⟨hF, hval⟩, hc1, rfl⟩ := h
  have hJ2 : LJ (fr S1 u1 w) u1 S2 ad am q q ao dx := hJ.cls (hF.toA hJ.hA) (hF.toV hJ.hA hJ.hV) hc1
  refine v_aload_n C 3 rfl rfl dL_law_958 ?_
  refine v_callVl C (st := [.long r]) [] ((c_X5_bestCostByTrying l S2 am q hI.1 hJ2.nA hJ2.nV).frmL hJ2.i2) ml_RL_173 mi_yX5_bestCostByTrying hJ2.km (by decide) (by decide +kernel) rfl (Nat.le_of_ble_eq_true rfl) (Nat.le_of_ble_eq_true rfl) (Nat.le_of_ble_eq_true rfl) (by show _ + 0 ≤ 603072; omega) (by show _ + 0 ≤ 7207018; omega) dL_law_959 (fun v2 w2 h => ?_) _ rfl
  obtain ⟨u2, ⟨hF2, h61, hval2⟩, hc2, rfl⟩ := h
  have hJ3 : LJ (fr S2 u2 (fr S1 u1 w)) u1 u2 ad am q q ao dx := hJ2.mod (hF2.toA hJ2.nA) (hF2.toV hJ2.nA hJ2.nV) hc2
  have hI2 : INV q B := hI
  refine v_lcmp C dL_law_962 ?_
  refine v_if_eq C 1969 (by decide) dL_law_963 (fun c963 => ?_) (fun q => ((q (by rw [← hval, ← hval2]; exact lg_cmp_rf _) : False)).elim)
  exact V.sub [0, 1, 2, 3, 4, 5] rfl (kk _ _ _ ad am q _ _ _ hJ3 rfl rfl hI2 (Or.inl ⟨rfl, by omega, by omega⟩))
set_option maxRecDepth 100000 in
set_option maxHeartbeats 4000000 in
theorem lw_goesTo {l : Launch} {pP : Program} {eE : Env} {sS : State} {mM : MethodId} {aA : Array Value} {bB : List Frame} {tT : Method} {cC : Code} {G : GT} {A : Nat → Prop} {Q : State → Prop} (hlf : l.stackTraces = false) (C : Cx pP l eE room_1 sS mM aA bB tT cC cL_law 9 RL G A) {b L : Nat} {xs : Nat → Int32} (hX : va_X b L xs sS sS.heap) (hbl : b < sS.heap.size) (hbA : ¬ A b) (iv : Int32) (hin : ∀ z : Int32, z = 1 ∨ z = 2 ∨ z = 3 ∨ z = 4 → vp_in (iv + z) L) (w S1 S2 : HS) (ad : AD) (am : AM) (q : AS) (ao dx : Nat) (hJ : LJ w S1 S2 ad am q q ao dx) (B k n : Nat) (hI : INV q B) (hB : B ≤ 257) (hk : k + 1000 ≤ 603072) (hn : n + 30000 ≤ 7207018) (kk : ∀ (w' S1' S2' : HS) (ad' : AD) (am' : AM) (q' : AS) (B' k' n' : Nat), LJ w' S1' S2' ad' am' q' q' ao dx → ad' 0 0 = ad 0 0 → am' 0 = am 0 → INV q' B' → LB q q' B B' k n k' n' → V pP l eE room_1 sS mM aA bB tT cC 9 G A w' k' n' Q 1969 [(5, .int iv), (4, .ref dx), (3, .ref ao), (2, .ref (am 0)), (1, .ref (ad 0 0)), (0, .ref b)] []) : V pP l eE room_1 sS mM aA bB tT cC 9 G A w k n Q 968 [(5, .int iv), (4, .ref dx), (3, .ref ao), (2, .ref (am 0)), (1, .ref (ad 0 0)), (0, .ref b)] [] := by
  have h1 := hin 1 (by decide)
  obtain ⟨a1, e1⟩ : ∃ z, xs (iv + 1).toNatClampNeg = z := ⟨_, rfl⟩
  refine v_aload_n C 4 rfl rfl dL_law_968 ?_
  refine v_aload_n C 5 rfl rfl dL_law_969 ?_
  refine v_iload C 0 rfl dL_law_970 ?_
  refine v_iconst C 1 (by decide) dL_law_972 ?_
  refine v_iadd C dL_law_973 ?_
  refine v_sld C hX hbl hbA h1 e1 dL_law_974 ?_
  refine v_aload_n C 2 rfl rfl dL_law_975 ?_
  refine v_callSHi C (st := []) [.ref (ad 0 0), .int a1, .ref ao] (c_L_goesTo l w S1 hJ.i1 (ad 0 0) ao a1 _ _ (c_X4_goesTo l hlf S1 ad q hI.1 hJ.hA hJ.hV a1) (fun E u hx => hx.1) hJ.kx hJ.rao.1 hJ.rao.2.1 hJ.rao.2.2.1) mlh_RL_174 rfl (Nat.le_of_ble_eq_true rfl) (Nat.le_of_ble_eq_true rfl) (Nat.le_of_ble_eq_true rfl) (by show _ + 1 ≤ 603072; omega) (by show _ + 6 ≤ 7207018; omega) dL_law_976 (fun r w1 h => ?_) _ rfl
  obtain ⟨q1, v, u1, ad1, hR1, hA1, hV1, hx1, hc1, hw1⟩ := kc_goesTo hJ.hA hJ.hV a1 h
  have hJ1 : LJ (fr S1 u1 w) u1 S2 ad1 am q1 q ao dx := hJ.cls hA1 hV1 hc1
  have hJ2 : LJ w1 u1 S2 ad1 am q1 q ao dx := by
    rcases hw1 with ⟨-, rfl⟩ | ⟨-, rfl⟩
    · exact hJ1.rowJ
    · exact hJ1
  have hr1 : r = 0 → aJ w1 ao 0 = v.toInt64 := fun z => by
    rcases hw1 with ⟨-, rfl⟩ | ⟨h9, -⟩
    · exact (aJ_tJ1 0).trans (if_pos rfl)
    · exact absurd z h9
  refine v_istore C [(6, .int r), (5, .int iv), (4, .ref dx), (3, .ref ao), (2, .ref (am 0)), (1, .ref (ad 0 0)), (0, .ref b)] (by decide) rfl dL_law_979 ?_
  refine v_aload_n C 4 rfl rfl dL_law_981 ?_
  refine v_aload_n C 6 rfl rfl dL_law_982 ?_
  refine v_iload C 1 rfl dL_law_983 ?_
  refine v_iconst C 1 (by decide) dL_law_985 ?_
  refine v_iadd C dL_law_986 ?_
  refine v_sld C hX hbl hbA h1 e1 dL_law_987 ?_
  refine v_callVi C (st := []) [.int a1] ((c_X5_goesTo l S2 am q hI.1 hJ2.nA hJ2.nV a1).frmI hJ2.i2) ml_RL_176 mi_yX5_goesTo hJ2.km (by decide) (by decide +kernel) rfl (Nat.le_of_ble_eq_true rfl) (Nat.le_of_ble_eq_true rfl) (Nat.le_of_ble_eq_true rfl) (by show _ + 0 ≤ 603072; omega) (by show _ + 0 ≤ 7207018; omega) dL_law_988 (fun v2 w2 h => ?_) _ rfl
  obtain ⟨u2, hf2, hc2, rfl⟩ := h
  obtain ⟨q2, am2, hR2, hA2, hV2, hx2⟩ := km_goesTo hJ2.nA hJ2.nV a1 hf2
  obtain ⟨hκ, hq, hv⟩ := kf_goesTo hI.1 a1 hR1 hR2
  have hI2 := ki_goesTo hI a1 hR1
  subst hq
  have hJ3 : LJ (fr S2 u2 w1) u1 u2 ad1 am2 q1 q1 ao dx := hJ2.mod hA2 hV2 hc2
  have hr3 : r = 0 → aJ (fr S2 u2 w1) ao 0 = v2.toInt64 := fun z => by
    rw [hJ2.modJ hc2, hr1 z, hv z]
  refine v_istore C [(7, .int v2), (6, .int r), (5, .int iv), (4, .ref dx), (3, .ref ao), (2, .ref (am 0)), (1, .ref (ad 0 0)), (0, .ref b)] (by decide) rfl dL_law_991 ?_
  refine v_aload_n C 5 rfl rfl dL_law_993 ?_
  refine v_callVi C (st := []) [] ((thr_of l hA2 hx2).frmI hJ3.i2) ml_RL_120 mi_yX5_thrown (hx2 ▸ hJ3.km) (by decide) (by decide +kernel) rfl (Nat.le_of_ble_eq_true rfl) (Nat.le_of_ble_eq_true rfl) (Nat.le_of_ble_eq_true rfl) (by show _ + 0 ≤ 603072; omega) (by show _ + 0 ≤ 7207018; omega) dL_law_994 (fun r3 w3 h => ?_) _ rfl
  obtain ⟨u3, ⟨hr4, rfl⟩, hc3, rfl⟩ := h
  rw [fr_self hJ3.i2]
  refine v_iload C 1 rfl dL_law_997 ?_
  refine v_icmp_eq C 1004 (by decide) dL_law_999 (fun c999 => ?_) (fun q => ((q (hr4.symm.trans hκ.symm) : False)).elim)
  refine v_iload C 1 rfl dL_law_1004 ?_
  refine v_if_ne C 1021 (by decide) dL_law_1006 (fun hz => ?_) (fun hz => ?_)
  · refine v_goto C 1969 (by decide) dL_law_1021 ?_
    exact V.sub [2, 3, 4, 5, 6, 7] rfl (kk _ _ _ ad1 am2 q1 _ _ _ hJ3 hx1 hx2 hI2 (Or.inl ⟨rfl, by omega, by omega⟩))
  · refine v_aload_n C 4 rfl rfl dL_law_1009 ?_
    refine v_iconst C 0 (by decide) dL_law_1010 ?_
    refine v_lald C v2.toInt64 hJ3.rao.1 (by rw [hJ3.rao.2.1]; unfold vp_in; decide) (hr3 hz) dL_law_1011 ?_
    refine v_iload C 0 rfl dL_law_1012 ?_
    refine v_i2l C dL_law_1014 ?_
    refine v_lcmp C dL_law_1015 ?_
    refine v_if_eq C 1021 (by decide) dL_law_1016 (fun c1016 => ?_) (fun q => ((q (lg_cmp_rf _) : False)).elim)
    refine v_goto C 1969 (by decide) dL_law_1021 ?_
    exact V.sub [2, 3, 4, 5, 6, 7] rfl (kk _ _ _ ad1 am2 q1 _ _ _ hJ3 hx1 hx2 hI2 (Or.inl ⟨rfl, by omega, by omega⟩))
set_option maxRecDepth 100000 in
set_option maxHeartbeats 4000000 in
theorem lw_tracks {l : Launch} {pP : Program} {eE : Env} {sS : State} {mM : MethodId} {aA : Array Value} {bB : List Frame} {tT : Method} {cC : Code} {G : GT} {A : Nat → Prop} {Q : State → Prop} (hlf : l.stackTraces = false) (C : Cx pP l eE room_1 sS mM aA bB tT cC cL_law 9 RL G A) {b L : Nat} {xs : Nat → Int32} (hX : va_X b L xs sS sS.heap) (hbl : b < sS.heap.size) (hbA : ¬ A b) (iv : Int32) (hin : ∀ z : Int32, z = 1 ∨ z = 2 ∨ z = 3 ∨ z = 4 → vp_in (iv + z) L) (w S1 S2 : HS) (ad : AD) (am : AM) (q : AS) (ao dx : Nat) (hJ : LJ w S1 S2 ad am q q ao dx) (B k n : Nat) (hI : INV q B) (hB : B ≤ 257) (hk : k + 1000 ≤ 603072) (hn : n + 30000 ≤ 7207018) (kk : ∀ (w' S1' S2' : HS) (ad' : AD) (am' : AM) (q' : AS) (B' k' n' : Nat), LJ w' S1' S2' ad' am' q' q' ao dx → ad' 0 0 = ad 0 0 → am' 0 = am 0 → INV q' B' → LB q q' B B' k n k' n' → V pP l eE room_1 sS mM aA bB tT cC 9 G A w' k' n' Q 1969 [(5, .int iv), (4, .ref dx), (3, .ref ao), (2, .ref (am 0)), (1, .ref (ad 0 0)), (0, .ref b)] []) : V pP l eE room_1 sS mM aA bB tT cC 9 G A w k n Q 1024 [(5, .int iv), (4, .ref dx), (3, .ref ao), (2, .ref (am 0)), (1, .ref (ad 0 0)), (0, .ref b)] [] := by
  refine v_aload_n C 4 rfl rfl dL_law_1024 ?_
  refine v_callVi C (st := []) [] ((c_X4_tracks l S1 ad q hI.1 hJ.hA hJ.hV).frmI hJ.i1) ml_RL_177 mi_yX4_tracks hJ.kx (by decide) (by decide +kernel) rfl (Nat.le_of_ble_eq_true rfl) (Nat.le_of_ble_eq_true rfl) (Nat.le_of_ble_eq_true rfl) (by show _ + 0 ≤ 603072; omega) (by show _ + 0 ≤ 7207018; omega) dL_law_1025 (fun r w1 h => ?_) _ rfl
  obtain ⟨u1, ⟨hval, rfl⟩, hc1, rfl⟩ := h
  rw [fr_self hJ.i1]
  have hJ2 : LJ w S1 S2 ad am q q ao dx := hJ
  refine v_aload_n C 3 rfl rfl dL_law_1028 ?_
  refine v_callVi C (st := [.int r]) [] ((c_X5_tracks l S2 am q hJ2.nA hJ2.nV).frmI hJ2.i2) ml_RL_180 mi_yX5_tracks hJ2.km (by decide) (by decide +kernel) rfl (Nat.le_of_ble_eq_true rfl) (Nat.le_of_ble_eq_true rfl) (Nat.le_of_ble_eq_true rfl) (by show _ + 0 ≤ 603072; omega) (by show _ + 0 ≤ 7207018; omega) dL_law_1029 (fun v2 w2 h => ?_) _ rfl
  obtain ⟨u2, ⟨hF2, h61, hval2⟩, hc2, rfl⟩ := h
  have hJ3 : LJ (fr S2 u2 w) S1 u2 ad am q q ao dx := hJ2.mod (hF2.toA hJ2.nA) (hF2.toV hJ2.nA hJ2.nV) hc2
  have hI2 : INV q B := hI
  refine v_icmp_eq C 1969 (by decide) dL_law_1032 (fun c1032 => ?_) (fun q => ((q (hval.symm.trans hval2) : False)).elim)
  exact V.sub [0, 1, 2, 3, 4, 5] rfl (kk _ _ _ ad am q _ _ _ hJ3 rfl rfl hI2 (Or.inl ⟨rfl, by omega, by omega⟩))
set_option maxRecDepth 100000 in
set_option maxHeartbeats 4000000 in
theorem lw_liveTracks {l : Launch} {pP : Program} {eE : Env} {sS : State} {mM : MethodId} {aA : Array Value} {bB : List Frame} {tT : Method} {cC : Code} {G : GT} {A : Nat → Prop} {Q : State → Prop} (hlf : l.stackTraces = false) (C : Cx pP l eE room_1 sS mM aA bB tT cC cL_law 9 RL G A) {b L : Nat} {xs : Nat → Int32} (hX : va_X b L xs sS sS.heap) (hbl : b < sS.heap.size) (hbA : ¬ A b) (iv : Int32) (hin : ∀ z : Int32, z = 1 ∨ z = 2 ∨ z = 3 ∨ z = 4 → vp_in (iv + z) L) (w S1 S2 : HS) (ad : AD) (am : AM) (q : AS) (ao dx : Nat) (hJ : LJ w S1 S2 ad am q q ao dx) (B k n : Nat) (hI : INV q B) (hB : B ≤ 257) (hk : k + 1000 ≤ 603072) (hn : n + 30000 ≤ 7207018) (kk : ∀ (w' S1' S2' : HS) (ad' : AD) (am' : AM) (q' : AS) (B' k' n' : Nat), LJ w' S1' S2' ad' am' q' q' ao dx → ad' 0 0 = ad 0 0 → am' 0 = am 0 → INV q' B' → LB q q' B B' k n k' n' → V pP l eE room_1 sS mM aA bB tT cC 9 G A w' k' n' Q 1969 [(5, .int iv), (4, .ref dx), (3, .ref ao), (2, .ref (am 0)), (1, .ref (ad 0 0)), (0, .ref b)] []) : V pP l eE room_1 sS mM aA bB tT cC 9 G A w k n Q 1037 [(5, .int iv), (4, .ref dx), (3, .ref ao), (2, .ref (am 0)), (1, .ref (ad 0 0)), (0, .ref b)] [] := by
  refine v_aload_n C 4 rfl rfl dL_law_1037 ?_
  refine v_callVi C (st := []) [] ((c_X4_liveTracks l S1 ad q hI.1 hJ.hA hJ.hV).frmI hJ.i1) ml_RL_181 mi_yX4_liveTracks hJ.kx (by decide) (by decide +kernel) rfl (Nat.le_of_ble_eq_true rfl) (Nat.le_of_ble_eq_true rfl) (Nat.le_of_ble_eq_true rfl) (by show _ + 0 ≤ 603072; omega) (by show _ + 0 ≤ 7207018; omega) dL_law_1038 (fun r w1 h => ?_) _ rfl
  obtain ⟨u1, ⟨hval, rfl⟩, hc1, rfl⟩ := h
  rw [fr_self hJ.i1]
  have hJ2 : LJ w S1 S2 ad am q q ao dx := hJ
  refine v_aload_n C 3 rfl rfl dL_law_1041 ?_
  refine v_callVi C (st := [.int r]) [] ((c_X5_liveTracks l S2 am q hI.1 hJ2.nA hJ2.nV).frmI hJ2.i2) ml_RL_184 mi_yX5_liveTracks hJ2.km (by decide) (by decide +kernel) rfl (Nat.le_of_ble_eq_true rfl) (Nat.le_of_ble_eq_true rfl) (Nat.le_of_ble_eq_true rfl) (by show _ + 0 ≤ 603072; omega) (by show _ + 0 ≤ 7207018; omega) dL_law_1042 (fun v2 w2 h => ?_) _ rfl
  obtain ⟨u2, ⟨hF2, h61, hval2⟩, hc2, rfl⟩ := h
  have hJ3 : LJ (fr S2 u2 w) S1 u2 ad am q q ao dx := hJ2.mod (hF2.toA hJ2.nA) (hF2.toV hJ2.nA hJ2.nV) hc2
  have hI2 : INV q B := hI
  refine v_icmp_eq C 1969 (by decide) dL_law_1045 (fun c1045 => ?_) (fun q => ((q (hval.symm.trans hval2) : False)).elim)
  exact V.sub [0, 1, 2, 3, 4, 5] rfl (kk _ _ _ ad am q _ _ _ hJ3 rfl rfl hI2 (Or.inl ⟨rfl, by omega, by omega⟩))
set_option maxRecDepth 100000 in
set_option maxHeartbeats 4000000 in
theorem lw_status {l : Launch} {pP : Program} {eE : Env} {sS : State} {mM : MethodId} {aA : Array Value} {bB : List Frame} {tT : Method} {cC : Code} {G : GT} {A : Nat → Prop} {Q : State → Prop} (hlf : l.stackTraces = false) (C : Cx pP l eE room_1 sS mM aA bB tT cC cL_law 9 RL G A) {b L : Nat} {xs : Nat → Int32} (hX : va_X b L xs sS sS.heap) (hbl : b < sS.heap.size) (hbA : ¬ A b) (iv : Int32) (hin : ∀ z : Int32, z = 1 ∨ z = 2 ∨ z = 3 ∨ z = 4 → vp_in (iv + z) L) (w S1 S2 : HS) (ad : AD) (am : AM) (q : AS) (ao dx : Nat) (hJ : LJ w S1 S2 ad am q q ao dx) (B k n : Nat) (hI : INV q B) (hB : B ≤ 257) (hk : k + 1000 ≤ 603072) (hn : n + 30000 ≤ 7207018) (kk : ∀ (w' S1' S2' : HS) (ad' : AD) (am' : AM) (q' : AS) (B' k' n' : Nat), LJ w' S1' S2' ad' am' q' q' ao dx → ad' 0 0 = ad 0 0 → am' 0 = am 0 → INV q' B' → LB q q' B B' k n k' n' → V pP l eE room_1 sS mM aA bB tT cC 9 G A w' k' n' Q 1969 [(5, .int iv), (4, .ref dx), (3, .ref ao), (2, .ref (am 0)), (1, .ref (ad 0 0)), (0, .ref b)] []) : V pP l eE room_1 sS mM aA bB tT cC 9 G A w k n Q 1050 [(5, .int iv), (4, .ref dx), (3, .ref ao), (2, .ref (am 0)), (1, .ref (ad 0 0)), (0, .ref b)] [] := by
  have h1 := hin 1 (by decide)
  obtain ⟨a1, e1⟩ : ∃ z, xs (iv + 1).toNatClampNeg = z := ⟨_, rfl⟩
  refine v_aload_n C 4 rfl rfl dL_law_1050 ?_
  refine v_aload_n C 5 rfl rfl dL_law_1051 ?_
  refine v_iload C 0 rfl dL_law_1052 ?_
  refine v_iconst C 1 (by decide) dL_law_1054 ?_
  refine v_iadd C dL_law_1055 ?_
  refine v_sld C hX hbl hbA h1 e1 dL_law_1056 ?_
  refine v_aload_n C 2 rfl rfl dL_law_1057 ?_
  refine v_callSHi C (st := []) [.ref (ad 0 0), .int a1, .ref ao] (c_L_status l w S1 hJ.i1 (ad 0 0) ao a1 _ _ (c_X4_status l hlf S1 ad q hI.1 hJ.hA hJ.hV hI.2.2.1 a1) (fun E u hx => hx.1) hJ.kx hJ.rao.1 hJ.rao.2.1 hJ.rao.2.2.1) mlh_RL_185 rfl (Nat.le_of_ble_eq_true rfl) (Nat.le_of_ble_eq_true rfl) (Nat.le_of_ble_eq_true rfl) (by show _ + 1 ≤ 603072; omega) (by show _ + 6 ≤ 7207018; omega) dL_law_1058 (fun r w1 h => ?_) _ rfl
  obtain ⟨q1, v, u1, ad1, hR1, hA1, hV1, hx1, hc1, hw1⟩ := kc_status hJ.hA hJ.hV a1 h
  have hJ1 : LJ (fr S1 u1 w) u1 S2 ad1 am q1 q ao dx := hJ.cls hA1 hV1 hc1
  have hJ2 : LJ w1 u1 S2 ad1 am q1 q ao dx := by
    rcases hw1 with ⟨-, rfl⟩ | ⟨-, rfl⟩
    · exact hJ1.rowJ
    · exact hJ1
  have hr1 : r = 0 → aJ w1 ao 0 = v.toInt64 := fun z => by
    rcases hw1 with ⟨-, rfl⟩ | ⟨h9, -⟩
    · exact (aJ_tJ1 0).trans (if_pos rfl)
    · exact absurd z h9
  refine v_istore C [(6, .int r), (5, .int iv), (4, .ref dx), (3, .ref ao), (2, .ref (am 0)), (1, .ref (ad 0 0)), (0, .ref b)] (by decide) rfl dL_law_1061 ?_
  refine v_aload_n C 4 rfl rfl dL_law_1063 ?_
  refine v_aload_n C 6 rfl rfl dL_law_1064 ?_
  refine v_iload C 1 rfl dL_law_1065 ?_
  refine v_iconst C 1 (by decide) dL_law_1067 ?_
  refine v_iadd C dL_law_1068 ?_
  refine v_sld C hX hbl hbA h1 e1 dL_law_1069 ?_
  refine v_callVi C (st := []) [.int a1] ((c_X5_status l S2 am q hI.1 hJ2.nA hJ2.nV a1).frmI hJ2.i2) ml_RL_187 mi_yX5_status hJ2.km (by decide) (by decide +kernel) rfl (Nat.le_of_ble_eq_true rfl) (Nat.le_of_ble_eq_true rfl) (Nat.le_of_ble_eq_true rfl) (by show _ + 0 ≤ 603072; omega) (by show _ + 0 ≤ 7207018; omega) dL_law_1070 (fun v2 w2 h => ?_) _ rfl
  obtain ⟨u2, hf2, hc2, rfl⟩ := h
  obtain ⟨q2, am2, hR2, hA2, hV2, hx2⟩ := km_status hJ2.nA hJ2.nV a1 hf2
  obtain ⟨hκ, hq, hv⟩ := kf_status hI.1 a1 hR1 hR2
  have hI2 := ki_status hI a1 hR1
  subst hq
  have hJ3 : LJ (fr S2 u2 w1) u1 u2 ad1 am2 q1 q1 ao dx := hJ2.mod hA2 hV2 hc2
  have hr3 : r = 0 → aJ (fr S2 u2 w1) ao 0 = v2.toInt64 := fun z => by
    rw [hJ2.modJ hc2, hr1 z, hv z]
  refine v_istore C [(7, .int v2), (6, .int r), (5, .int iv), (4, .ref dx), (3, .ref ao), (2, .ref (am 0)), (1, .ref (ad 0 0)), (0, .ref b)] (by decide) rfl dL_law_1073 ?_
  refine v_aload_n C 5 rfl rfl dL_law_1075 ?_
  refine v_callVi C (st := []) [] ((thr_of l hA2 hx2).frmI hJ3.i2) ml_RL_120 mi_yX5_thrown (hx2 ▸ hJ3.km) (by decide) (by decide +kernel) rfl (Nat.le_of_ble_eq_true rfl) (Nat.le_of_ble_eq_true rfl) (Nat.le_of_ble_eq_true rfl) (by show _ + 0 ≤ 603072; omega) (by show _ + 0 ≤ 7207018; omega) dL_law_1076 (fun r3 w3 h => ?_) _ rfl
  obtain ⟨u3, ⟨hr4, rfl⟩, hc3, rfl⟩ := h
  rw [fr_self hJ3.i2]
  refine v_iload C 1 rfl dL_law_1079 ?_
  refine v_icmp_eq C 1086 (by decide) dL_law_1081 (fun c1081 => ?_) (fun q => ((q (hr4.symm.trans hκ.symm) : False)).elim)
  refine v_iload C 1 rfl dL_law_1086 ?_
  refine v_if_ne C 1103 (by decide) dL_law_1088 (fun hz => ?_) (fun hz => ?_)
  · refine v_goto C 1969 (by decide) dL_law_1103 ?_
    exact V.sub [2, 3, 4, 5, 6, 7] rfl (kk _ _ _ ad1 am2 q1 _ _ _ hJ3 hx1 hx2 hI2 (Or.inl ⟨rfl, by omega, by omega⟩))
  · refine v_aload_n C 4 rfl rfl dL_law_1091 ?_
    refine v_iconst C 0 (by decide) dL_law_1092 ?_
    refine v_lald C v2.toInt64 hJ3.rao.1 (by rw [hJ3.rao.2.1]; unfold vp_in; decide) (hr3 hz) dL_law_1093 ?_
    refine v_iload C 0 rfl dL_law_1094 ?_
    refine v_i2l C dL_law_1096 ?_
    refine v_lcmp C dL_law_1097 ?_
    refine v_if_eq C 1103 (by decide) dL_law_1098 (fun c1098 => ?_) (fun q => ((q (lg_cmp_rf _) : False)).elim)
    refine v_goto C 1969 (by decide) dL_law_1103 ?_
    exact V.sub [2, 3, 4, 5, 6, 7] rfl (kk _ _ _ ad1 am2 q1 _ _ _ hJ3 hx1 hx2 hI2 (Or.inl ⟨rfl, by omega, by omega⟩))
set_option maxRecDepth 100000 in
set_option maxHeartbeats 4000000 in
theorem lw_timeOf {l : Launch} {pP : Program} {eE : Env} {sS : State} {mM : MethodId} {aA : Array Value} {bB : List Frame} {tT : Method} {cC : Code} {G : GT} {A : Nat → Prop} {Q : State → Prop} (hlf : l.stackTraces = false) (C : Cx pP l eE room_1 sS mM aA bB tT cC cL_law 9 RL G A) {b L : Nat} {xs : Nat → Int32} (hX : va_X b L xs sS sS.heap) (hbl : b < sS.heap.size) (hbA : ¬ A b) (iv : Int32) (hin : ∀ z : Int32, z = 1 ∨ z = 2 ∨ z = 3 ∨ z = 4 → vp_in (iv + z) L) (w S1 S2 : HS) (ad : AD) (am : AM) (q : AS) (ao dx : Nat) (hJ : LJ w S1 S2 ad am q q ao dx) (B k n : Nat) (hI : INV q B) (hB : B ≤ 257) (hk : k + 1000 ≤ 603072) (hn : n + 30000 ≤ 7207018) (kk : ∀ (w' S1' S2' : HS) (ad' : AD) (am' : AM) (q' : AS) (B' k' n' : Nat), LJ w' S1' S2' ad' am' q' q' ao dx → ad' 0 0 = ad 0 0 → am' 0 = am 0 → INV q' B' → LB q q' B B' k n k' n' → V pP l eE room_1 sS mM aA bB tT cC 9 G A w' k' n' Q 1969 [(5, .int iv), (4, .ref dx), (3, .ref ao), (2, .ref (am 0)), (1, .ref (ad 0 0)), (0, .ref b)] []) : V pP l eE room_1 sS mM aA bB tT cC 9 G A w k n Q 1106 [(5, .int iv), (4, .ref dx), (3, .ref ao), (2, .ref (am 0)), (1, .ref (ad 0 0)), (0, .ref b)] [] := by
  have h1 := hin 1 (by decide)
  obtain ⟨a1, e1⟩ : ∃ z, xs (iv + 1).toNatClampNeg = z := ⟨_, rfl⟩
  refine v_aload_n C 4 rfl rfl dL_law_1106 ?_
  refine v_aload_n C 5 rfl rfl dL_law_1107 ?_
  refine v_iload C 0 rfl dL_law_1108 ?_
  refine v_iconst C 1 (by decide) dL_law_1110 ?_
  refine v_iadd C dL_law_1111 ?_
  refine v_sld C hX hbl hbA h1 e1 dL_law_1112 ?_
  refine v_aload_n C 2 rfl rfl dL_law_1113 ?_
  refine v_callSHi C (st := []) [.ref (ad 0 0), .int a1, .ref ao] (c_L_timeOf l w S1 hJ.i1 (ad 0 0) ao a1 _ _ (c_X4_timeOf l hlf S1 ad q hI.1 hJ.hA hJ.hV a1) (fun E u hx => hx.1) hJ.kx hJ.rao.1 hJ.rao.2.1 hJ.rao.2.2.1) mlh_RL_188 rfl (Nat.le_of_ble_eq_true rfl) (Nat.le_of_ble_eq_true rfl) (Nat.le_of_ble_eq_true rfl) (by show _ + 1 ≤ 603072; omega) (by show _ + 6 ≤ 7207018; omega) dL_law_1114 (fun r w1 h => ?_) _ rfl
  obtain ⟨q1, v, u1, ad1, hR1, hA1, hV1, hx1, hc1, hw1⟩ := kc_timeOf hJ.hA hJ.hV a1 h
  have hJ1 : LJ (fr S1 u1 w) u1 S2 ad1 am q1 q ao dx := hJ.cls hA1 hV1 hc1
  have hJ2 : LJ w1 u1 S2 ad1 am q1 q ao dx := by
    rcases hw1 with ⟨-, rfl⟩ | ⟨-, rfl⟩
    · exact hJ1.rowJ
    · exact hJ1
  have hr1 : r = 0 → aJ w1 ao 0 = v.toInt64 := fun z => by
    rcases hw1 with ⟨-, rfl⟩ | ⟨h9, -⟩
    · exact (aJ_tJ1 0).trans (if_pos rfl)
    · exact absurd z h9
  refine v_istore C [(6, .int r), (5, .int iv), (4, .ref dx), (3, .ref ao), (2, .ref (am 0)), (1, .ref (ad 0 0)), (0, .ref b)] (by decide) rfl dL_law_1117 ?_
  refine v_aload_n C 4 rfl rfl dL_law_1119 ?_
  refine v_aload_n C 6 rfl rfl dL_law_1120 ?_
  refine v_iload C 1 rfl dL_law_1121 ?_
  refine v_iconst C 1 (by decide) dL_law_1123 ?_
  refine v_iadd C dL_law_1124 ?_
  refine v_sld C hX hbl hbA h1 e1 dL_law_1125 ?_
  refine v_callVi C (st := []) [.int a1] ((c_X5_timeOf l S2 am q hJ2.nA hJ2.nV a1).frmI hJ2.i2) ml_RL_190 mi_yX5_timeOf hJ2.km (by decide) (by decide +kernel) rfl (Nat.le_of_ble_eq_true rfl) (Nat.le_of_ble_eq_true rfl) (Nat.le_of_ble_eq_true rfl) (by show _ + 0 ≤ 603072; omega) (by show _ + 0 ≤ 7207018; omega) dL_law_1126 (fun v2 w2 h => ?_) _ rfl
  obtain ⟨u2, hf2, hc2, rfl⟩ := h
  obtain ⟨q2, am2, hR2, hA2, hV2, hx2⟩ := km_timeOf hJ2.nA hJ2.nV a1 hf2
  obtain ⟨hκ, hq, hv⟩ := kf_timeOf hI.1 a1 hR1 hR2
  have hI2 := ki_timeOf hI a1 hR1
  subst hq
  have hJ3 : LJ (fr S2 u2 w1) u1 u2 ad1 am2 q1 q1 ao dx := hJ2.mod hA2 hV2 hc2
  have hr3 : r = 0 → aJ (fr S2 u2 w1) ao 0 = v2.toInt64 := fun z => by
    rw [hJ2.modJ hc2, hr1 z, hv z]
  refine v_istore C [(7, .int v2), (6, .int r), (5, .int iv), (4, .ref dx), (3, .ref ao), (2, .ref (am 0)), (1, .ref (ad 0 0)), (0, .ref b)] (by decide) rfl dL_law_1129 ?_
  refine v_aload_n C 5 rfl rfl dL_law_1131 ?_
  refine v_callVi C (st := []) [] ((thr_of l hA2 hx2).frmI hJ3.i2) ml_RL_120 mi_yX5_thrown (hx2 ▸ hJ3.km) (by decide) (by decide +kernel) rfl (Nat.le_of_ble_eq_true rfl) (Nat.le_of_ble_eq_true rfl) (Nat.le_of_ble_eq_true rfl) (by show _ + 0 ≤ 603072; omega) (by show _ + 0 ≤ 7207018; omega) dL_law_1132 (fun r3 w3 h => ?_) _ rfl
  obtain ⟨u3, ⟨hr4, rfl⟩, hc3, rfl⟩ := h
  rw [fr_self hJ3.i2]
  refine v_iload C 1 rfl dL_law_1135 ?_
  refine v_icmp_eq C 1142 (by decide) dL_law_1137 (fun c1137 => ?_) (fun q => ((q (hr4.symm.trans hκ.symm) : False)).elim)
  refine v_iload C 1 rfl dL_law_1142 ?_
  refine v_if_ne C 1159 (by decide) dL_law_1144 (fun hz => ?_) (fun hz => ?_)
  · refine v_goto C 1969 (by decide) dL_law_1159 ?_
    exact V.sub [2, 3, 4, 5, 6, 7] rfl (kk _ _ _ ad1 am2 q1 _ _ _ hJ3 hx1 hx2 hI2 (Or.inl ⟨rfl, by omega, by omega⟩))
  · refine v_aload_n C 4 rfl rfl dL_law_1147 ?_
    refine v_iconst C 0 (by decide) dL_law_1148 ?_
    refine v_lald C v2.toInt64 hJ3.rao.1 (by rw [hJ3.rao.2.1]; unfold vp_in; decide) (hr3 hz) dL_law_1149 ?_
    refine v_iload C 0 rfl dL_law_1150 ?_
    refine v_i2l C dL_law_1152 ?_
    refine v_lcmp C dL_law_1153 ?_
    refine v_if_eq C 1159 (by decide) dL_law_1154 (fun c1154 => ?_) (fun q => ((q (lg_cmp_rf _) : False)).elim)
    refine v_goto C 1969 (by decide) dL_law_1159 ?_
    exact V.sub [2, 3, 4, 5, 6, 7] rfl (kk _ _ _ ad1 am2 q1 _ _ _ hJ3 hx1 hx2 hI2 (Or.inl ⟨rfl, by omega, by omega⟩))
set_option maxRecDepth 100000 in
set_option maxHeartbeats 4000000 in
theorem lw_stateOf {l : Launch} {pP : Program} {eE : Env} {sS : State} {mM : MethodId} {aA : Array Value} {bB : List Frame} {tT : Method} {cC : Code} {G : GT} {A : Nat → Prop} {Q : State → Prop} (hlf : l.stackTraces = false) (C : Cx pP l eE room_1 sS mM aA bB tT cC cL_law 9 RL G A) {b L : Nat} {xs : Nat → Int32} (hX : va_X b L xs sS sS.heap) (hbl : b < sS.heap.size) (hbA : ¬ A b) (iv : Int32) (hin : ∀ z : Int32, z = 1 ∨ z = 2 ∨ z = 3 ∨ z = 4 → vp_in (iv + z) L) (w S1 S2 : HS) (ad : AD) (am : AM) (q : AS) (ao dx : Nat) (hJ : LJ w S1 S2 ad am q q ao dx) (B k n : Nat) (hI : INV q B) (hB : B ≤ 257) (hk : k + 1000 ≤ 603072) (hn : n + 30000 ≤ 7207018) (kk : ∀ (w' S1' S2' : HS) (ad' : AD) (am' : AM) (q' : AS) (B' k' n' : Nat), LJ w' S1' S2' ad' am' q' q' ao dx → ad' 0 0 = ad 0 0 → am' 0 = am 0 → INV q' B' → LB q q' B B' k n k' n' → V pP l eE room_1 sS mM aA bB tT cC 9 G A w' k' n' Q 1969 [(5, .int iv), (4, .ref dx), (3, .ref ao), (2, .ref (am 0)), (1, .ref (ad 0 0)), (0, .ref b)] []) : V pP l eE room_1 sS mM aA bB tT cC 9 G A w k n Q 1162 [(5, .int iv), (4, .ref dx), (3, .ref ao), (2, .ref (am 0)), (1, .ref (ad 0 0)), (0, .ref b)] [] := by
  have h1 := hin 1 (by decide)
  obtain ⟨a1, e1⟩ : ∃ z, xs (iv + 1).toNatClampNeg = z := ⟨_, rfl⟩
  have h2 := hin 2 (by decide)
  obtain ⟨a2, e2⟩ : ∃ z, xs (iv + 2).toNatClampNeg = z := ⟨_, rfl⟩
  refine v_aload_n C 4 rfl rfl dL_law_1162 ?_
  refine v_aload_n C 5 rfl rfl dL_law_1163 ?_
  refine v_iload C 0 rfl dL_law_1164 ?_
  refine v_iconst C 1 (by decide) dL_law_1166 ?_
  refine v_iadd C dL_law_1167 ?_
  refine v_sld C hX hbl hbA h1 e1 dL_law_1168 ?_
  refine v_aload_n C 5 rfl rfl dL_law_1169 ?_
  refine v_iload C 0 rfl dL_law_1170 ?_
  refine v_iconst C 2 (by decide) dL_law_1172 ?_
  refine v_iadd C dL_law_1173 ?_
  refine v_sld C hX hbl hbA h2 e2 dL_law_1174 ?_
  refine v_aload_n C 2 rfl rfl dL_law_1175 ?_
  refine v_callSHi C (st := []) [.ref (ad 0 0), .int a1, .int a2, .ref ao] (c_L_stateOf l w S1 hJ.i1 (ad 0 0) ao a1 a2 _ _ (c_X4_stateOf l hlf S1 ad q hI.1 hJ.hA hJ.hV a1 a2) (fun E u hx => hx.2.imp And.left And.left) hJ.kx hJ.rao.1 hJ.rao.2.1 hJ.rao.2.2.1) mlh_RL_191 rfl (Nat.le_of_ble_eq_true rfl) (Nat.le_of_ble_eq_true rfl) (Nat.le_of_ble_eq_true rfl) (by show _ + 2 ≤ 603072; omega) (by show _ + 12 ≤ 7207018; omega) dL_law_1176 (fun r w1 h => ?_) _ rfl
  obtain ⟨q1, v, u1, ad1, hR1, hA1, hV1, hx1, hc1, hw1⟩ := kc_stateOf hJ.hA hJ.hV a1 a2 h
  have hJ1 : LJ (fr S1 u1 w) u1 S2 ad1 am q1 q ao dx := hJ.cls hA1 hV1 hc1
  have hJ2 : LJ w1 u1 S2 ad1 am q1 q ao dx := by
    rcases hw1 with ⟨-, rfl⟩ | ⟨-, rfl⟩
    · exact hJ1.rowJ
    · exact hJ1
  have hr1 : r = 0 → aJ w1 ao 0 = v.toInt64 := fun z => by
    rcases hw1 with ⟨-, rfl⟩ | ⟨h9, -⟩
    · exact (aJ_tJ1 0).trans (if_pos rfl)
    · exact absurd z h9
  refine v_istore C [(6, .int r), (5, .int iv), (4, .ref dx), (3, .ref ao), (2, .ref (am 0)), (1, .ref (ad 0 0)), (0, .ref b)] (by decide) rfl dL_law_1179 ?_
  refine v_aload_n C 4 rfl rfl dL_law_1181 ?_
  refine v_aload_n C 6 rfl rfl dL_law_1182 ?_
  refine v_iload C 1 rfl dL_law_1183 ?_
  refine v_iconst C 1 (by decide) dL_law_1185 ?_
  refine v_iadd C dL_law_1186 ?_
  refine v_sld C hX hbl hbA h1 e1 dL_law_1187 ?_
  refine v_aload_n C 6 rfl rfl dL_law_1188 ?_
  refine v_iload C 1 rfl dL_law_1189 ?_
  refine v_iconst C 2 (by decide) dL_law_1191 ?_
  refine v_iadd C dL_law_1192 ?_
  refine v_sld C hX hbl hbA h2 e2 dL_law_1193 ?_
  refine v_callVi C (st := []) [.int a1, .int a2] ((c_X5_stateOf l S2 am q hJ2.nA hJ2.nV a1 a2).frmI hJ2.i2) ml_RL_193 mi_yX5_stateOf hJ2.km (by decide) (by decide +kernel) rfl (Nat.le_of_ble_eq_true rfl) (Nat.le_of_ble_eq_true rfl) (Nat.le_of_ble_eq_true rfl) (by show _ + 0 ≤ 603072; omega) (by show _ + 0 ≤ 7207018; omega) dL_law_1194 (fun v2 w2 h => ?_) _ rfl
  obtain ⟨u2, hf2, hc2, rfl⟩ := h
  obtain ⟨q2, am2, hR2, hA2, hV2, hx2⟩ := km_stateOf hJ2.nA hJ2.nV a1 a2 hf2
  obtain ⟨hκ, hq, hv⟩ := kf_stateOf hI.1 a1 a2 hR1 hR2
  have hI2 := ki_stateOf hI a1 a2 hR1
  subst hq
  have hJ3 : LJ (fr S2 u2 w1) u1 u2 ad1 am2 q1 q1 ao dx := hJ2.mod hA2 hV2 hc2
  have hr3 : r = 0 → aJ (fr S2 u2 w1) ao 0 = v2.toInt64 := fun z => by
    rw [hJ2.modJ hc2, hr1 z, hv z]
  refine v_istore C [(7, .int v2), (6, .int r), (5, .int iv), (4, .ref dx), (3, .ref ao), (2, .ref (am 0)), (1, .ref (ad 0 0)), (0, .ref b)] (by decide) rfl dL_law_1197 ?_
  refine v_aload_n C 5 rfl rfl dL_law_1199 ?_
  refine v_callVi C (st := []) [] ((thr_of l hA2 hx2).frmI hJ3.i2) ml_RL_120 mi_yX5_thrown (hx2 ▸ hJ3.km) (by decide) (by decide +kernel) rfl (Nat.le_of_ble_eq_true rfl) (Nat.le_of_ble_eq_true rfl) (Nat.le_of_ble_eq_true rfl) (by show _ + 0 ≤ 603072; omega) (by show _ + 0 ≤ 7207018; omega) dL_law_1200 (fun r3 w3 h => ?_) _ rfl
  obtain ⟨u3, ⟨hr4, rfl⟩, hc3, rfl⟩ := h
  rw [fr_self hJ3.i2]
  refine v_iload C 1 rfl dL_law_1203 ?_
  refine v_icmp_eq C 1210 (by decide) dL_law_1205 (fun c1205 => ?_) (fun q => ((q (hr4.symm.trans hκ.symm) : False)).elim)
  refine v_iload C 1 rfl dL_law_1210 ?_
  refine v_if_ne C 1227 (by decide) dL_law_1212 (fun hz => ?_) (fun hz => ?_)
  · refine v_goto C 1969 (by decide) dL_law_1227 ?_
    exact V.sub [2, 3, 4, 5, 6, 7] rfl (kk _ _ _ ad1 am2 q1 _ _ _ hJ3 hx1 hx2 hI2 (Or.inl ⟨rfl, by omega, by omega⟩))
  · refine v_aload_n C 4 rfl rfl dL_law_1215 ?_
    refine v_iconst C 0 (by decide) dL_law_1216 ?_
    refine v_lald C v2.toInt64 hJ3.rao.1 (by rw [hJ3.rao.2.1]; unfold vp_in; decide) (hr3 hz) dL_law_1217 ?_
    refine v_iload C 0 rfl dL_law_1218 ?_
    refine v_i2l C dL_law_1220 ?_
    refine v_lcmp C dL_law_1221 ?_
    refine v_if_eq C 1227 (by decide) dL_law_1222 (fun c1222 => ?_) (fun q => ((q (lg_cmp_rf _) : False)).elim)
    refine v_goto C 1969 (by decide) dL_law_1227 ?_
    exact V.sub [2, 3, 4, 5, 6, 7] rfl (kk _ _ _ ad1 am2 q1 _ _ _ hJ3 hx1 hx2 hI2 (Or.inl ⟨rfl, by omega, by omega⟩))
set_option maxRecDepth 100000 in
set_option maxHeartbeats 4000000 in
theorem lw_predicted {l : Launch} {pP : Program} {eE : Env} {sS : State} {mM : MethodId} {aA : Array Value} {bB : List Frame} {tT : Method} {cC : Code} {G : GT} {A : Nat → Prop} {Q : State → Prop} (hlf : l.stackTraces = false) (C : Cx pP l eE room_1 sS mM aA bB tT cC cL_law 9 RL G A) {b L : Nat} {xs : Nat → Int32} (hX : va_X b L xs sS sS.heap) (hbl : b < sS.heap.size) (hbA : ¬ A b) (iv : Int32) (hin : ∀ z : Int32, z = 1 ∨ z = 2 ∨ z = 3 ∨ z = 4 → vp_in (iv + z) L) (w S1 S2 : HS) (ad : AD) (am : AM) (q : AS) (ao dx : Nat) (hJ : LJ w S1 S2 ad am q q ao dx) (B k n : Nat) (hI : INV q B) (hB : B ≤ 257) (hk : k + 1000 ≤ 603072) (hn : n + 30000 ≤ 7207018) (kk : ∀ (w' S1' S2' : HS) (ad' : AD) (am' : AM) (q' : AS) (B' k' n' : Nat), LJ w' S1' S2' ad' am' q' q' ao dx → ad' 0 0 = ad 0 0 → am' 0 = am 0 → INV q' B' → LB q q' B B' k n k' n' → V pP l eE room_1 sS mM aA bB tT cC 9 G A w' k' n' Q 1969 [(5, .int iv), (4, .ref dx), (3, .ref ao), (2, .ref (am 0)), (1, .ref (ad 0 0)), (0, .ref b)] []) : V pP l eE room_1 sS mM aA bB tT cC 9 G A w k n Q 1230 [(5, .int iv), (4, .ref dx), (3, .ref ao), (2, .ref (am 0)), (1, .ref (ad 0 0)), (0, .ref b)] [] := by
  have h1 := hin 1 (by decide)
  obtain ⟨a1, e1⟩ : ∃ z, xs (iv + 1).toNatClampNeg = z := ⟨_, rfl⟩
  have h2 := hin 2 (by decide)
  obtain ⟨a2, e2⟩ : ∃ z, xs (iv + 2).toNatClampNeg = z := ⟨_, rfl⟩
  have h3 := hin 3 (by decide)
  obtain ⟨a3, e3⟩ : ∃ z, xs (iv + 3).toNatClampNeg = z := ⟨_, rfl⟩
  refine v_aload_n C 4 rfl rfl dL_law_1230 ?_
  refine v_aload_n C 5 rfl rfl dL_law_1231 ?_
  refine v_iload C 0 rfl dL_law_1232 ?_
  refine v_iconst C 1 (by decide) dL_law_1234 ?_
  refine v_iadd C dL_law_1235 ?_
  refine v_sld C hX hbl hbA h1 e1 dL_law_1236 ?_
  refine v_aload_n C 5 rfl rfl dL_law_1237 ?_
  refine v_iload C 0 rfl dL_law_1238 ?_
  refine v_iconst C 2 (by decide) dL_law_1240 ?_
  refine v_iadd C dL_law_1241 ?_
  refine v_sld C hX hbl hbA h2 e2 dL_law_1242 ?_
  refine v_aload_n C 5 rfl rfl dL_law_1243 ?_
  refine v_iload C 0 rfl dL_law_1244 ?_
  refine v_iconst C 3 (by decide) dL_law_1246 ?_
  refine v_iadd C dL_law_1247 ?_
  refine v_sld C hX hbl hbA h3 e3 dL_law_1248 ?_
  refine v_if_eq C 1256 (by decide) dL_law_1249 (fun c1249 => ?_) (fun c1249 => ?_)
  · refine v_iconst C 0 (by decide) dL_law_1256 ?_
    refine v_aload_n C 2 rfl rfl dL_law_1257 ?_
    refine v_callSHi C (st := []) [.ref (ad 0 0), .int a1, .int a2, .int 0, .ref ao] (c_L_predicted l w S1 hJ.i1 (ad 0 0) ao a1 a2 0 _ _ (c_X4_predicted l hlf S1 ad q hI.1 hJ.hA hJ.hV a1 a2 0) (fun E u hx => hx.2.imp And.left And.left) hJ.kx hJ.rao.1 hJ.rao.2.1 hJ.rao.2.2.1) mlh_RL_194 rfl (Nat.le_of_ble_eq_true rfl) (Nat.le_of_ble_eq_true rfl) (Nat.le_of_ble_eq_true rfl) (by show _ + 2 ≤ 603072; omega) (by show _ + 12 ≤ 7207018; omega) dL_law_1258 (fun r w1 h => ?_) _ rfl
    obtain ⟨q1, v, u1, ad1, hR1, hA1, hV1, hx1, hc1, hw1⟩ := kc_predicted hJ.hA hJ.hV a1 a2 0 h
    have hJ1 : LJ (fr S1 u1 w) u1 S2 ad1 am q1 q ao dx := hJ.cls hA1 hV1 hc1
    have hJ2 : LJ w1 u1 S2 ad1 am q1 q ao dx := by
      rcases hw1 with ⟨-, rfl⟩ | ⟨-, rfl⟩
      · exact hJ1.rowJ
      · exact hJ1
    have hr1 : r = 0 → aJ w1 ao 0 = v.toInt64 := fun z => by
      rcases hw1 with ⟨-, rfl⟩ | ⟨h9, -⟩
      · exact (aJ_tJ1 0).trans (if_pos rfl)
      · exact absurd z h9
    refine v_istore C [(6, .int r), (5, .int iv), (4, .ref dx), (3, .ref ao), (2, .ref (am 0)), (1, .ref (ad 0 0)), (0, .ref b)] (by decide) rfl dL_law_1261 ?_
    refine v_aload_n C 4 rfl rfl dL_law_1263 ?_
    refine v_aload_n C 6 rfl rfl dL_law_1264 ?_
    refine v_iload C 1 rfl dL_law_1265 ?_
    refine v_iconst C 1 (by decide) dL_law_1267 ?_
    refine v_iadd C dL_law_1268 ?_
    refine v_sld C hX hbl hbA h1 e1 dL_law_1269 ?_
    refine v_aload_n C 6 rfl rfl dL_law_1270 ?_
    refine v_iload C 1 rfl dL_law_1271 ?_
    refine v_iconst C 2 (by decide) dL_law_1273 ?_
    refine v_iadd C dL_law_1274 ?_
    refine v_sld C hX hbl hbA h2 e2 dL_law_1275 ?_
    refine v_aload_n C 6 rfl rfl dL_law_1276 ?_
    refine v_iload C 1 rfl dL_law_1277 ?_
    refine v_iconst C 3 (by decide) dL_law_1279 ?_
    refine v_iadd C dL_law_1280 ?_
    refine v_sld C hX hbl hbA h3 e3 dL_law_1281 ?_
    refine v_if_eq C 1289 (by decide) dL_law_1282 (fun _ => ?_) (fun q9 => absurd c1249 q9)
    refine v_iconst C 0 (by decide) dL_law_1289 ?_
    refine v_callVi C (st := []) [.int a1, .int a2, .int 0] ((c_X5_predicted l S2 am q hI.1 hJ2.nA hJ2.nV a1 a2 0).frmI hJ2.i2) ml_RL_197 mi_yX5_predicted hJ2.km (by decide) (by decide +kernel) rfl (Nat.le_of_ble_eq_true rfl) (Nat.le_of_ble_eq_true rfl) (Nat.le_of_ble_eq_true rfl) (by show _ + 0 ≤ 603072; omega) (by show _ + 0 ≤ 7207018; omega) dL_law_1290 (fun v2 w2 h => ?_) _ rfl
    obtain ⟨u2, hf2, hc2, rfl⟩ := h
    obtain ⟨q2, am2, hR2, hA2, hV2, hx2⟩ := km_predicted hJ2.nA hJ2.nV a1 a2 0 hf2
    obtain ⟨hκ, hq, hv⟩ := kf_predicted hI.1 a1 a2 0 hR1 hR2
    have hI2 := ki_predicted hI a1 a2 0 hR1
    subst hq
    have hJ3 : LJ (fr S2 u2 w1) u1 u2 ad1 am2 q1 q1 ao dx := hJ2.mod hA2 hV2 hc2
    have hr3 : r = 0 → aJ (fr S2 u2 w1) ao 0 = v2.toInt64 := fun z => by
      rw [hJ2.modJ hc2, hr1 z, hv z]
    refine v_istore C [(7, .int v2), (6, .int r), (5, .int iv), (4, .ref dx), (3, .ref ao), (2, .ref (am 0)), (1, .ref (ad 0 0)), (0, .ref b)] (by decide) rfl dL_law_1293 ?_
    refine v_aload_n C 5 rfl rfl dL_law_1295 ?_
    refine v_callVi C (st := []) [] ((thr_of l hA2 hx2).frmI hJ3.i2) ml_RL_120 mi_yX5_thrown (hx2 ▸ hJ3.km) (by decide) (by decide +kernel) rfl (Nat.le_of_ble_eq_true rfl) (Nat.le_of_ble_eq_true rfl) (Nat.le_of_ble_eq_true rfl) (by show _ + 0 ≤ 603072; omega) (by show _ + 0 ≤ 7207018; omega) dL_law_1296 (fun r3 w3 h => ?_) _ rfl
    obtain ⟨u3, ⟨hr4, rfl⟩, hc3, rfl⟩ := h
    rw [fr_self hJ3.i2]
    refine v_iload C 1 rfl dL_law_1299 ?_
    refine v_icmp_eq C 1306 (by decide) dL_law_1301 (fun c1301 => ?_) (fun q => ((q (hr4.symm.trans hκ.symm) : False)).elim)
    refine v_iload C 1 rfl dL_law_1306 ?_
    refine v_if_ne C 1323 (by decide) dL_law_1308 (fun hz => ?_) (fun hz => ?_)
    · refine v_goto C 1969 (by decide) dL_law_1323 ?_
      exact V.sub [2, 3, 4, 5, 6, 7] rfl (kk _ _ _ ad1 am2 q1 _ _ _ hJ3 hx1 hx2 hI2 (Or.inl ⟨rfl, by omega, by omega⟩))
    · refine v_aload_n C 4 rfl rfl dL_law_1311 ?_
      refine v_iconst C 0 (by decide) dL_law_1312 ?_
      refine v_lald C v2.toInt64 hJ3.rao.1 (by rw [hJ3.rao.2.1]; unfold vp_in; decide) (hr3 hz) dL_law_1313 ?_
      refine v_iload C 0 rfl dL_law_1314 ?_
      refine v_i2l C dL_law_1316 ?_
      refine v_lcmp C dL_law_1317 ?_
      refine v_if_eq C 1323 (by decide) dL_law_1318 (fun c1318 => ?_) (fun q => ((q (lg_cmp_rf _) : False)).elim)
      refine v_goto C 1969 (by decide) dL_law_1323 ?_
      exact V.sub [2, 3, 4, 5, 6, 7] rfl (kk _ _ _ ad1 am2 q1 _ _ _ hJ3 hx1 hx2 hI2 (Or.inl ⟨rfl, by omega, by omega⟩))
  · refine v_iconst C 1 (by decide) dL_law_1252 ?_
    refine v_goto C 1257 (by decide) dL_law_1253 ?_
    refine v_aload_n C 2 rfl rfl dL_law_1257 ?_
    refine v_callSHi C (st := []) [.ref (ad 0 0), .int a1, .int a2, .int 1, .ref ao] (c_L_predicted l w S1 hJ.i1 (ad 0 0) ao a1 a2 1 _ _ (c_X4_predicted l hlf S1 ad q hI.1 hJ.hA hJ.hV a1 a2 1) (fun E u hx => hx.2.imp And.left And.left) hJ.kx hJ.rao.1 hJ.rao.2.1 hJ.rao.2.2.1) mlh_RL_194 rfl (Nat.le_of_ble_eq_true rfl) (Nat.le_of_ble_eq_true rfl) (Nat.le_of_ble_eq_true rfl) (by show _ + 2 ≤ 603072; omega) (by show _ + 12 ≤ 7207018; omega) dL_law_1258 (fun r w1 h => ?_) _ rfl
    obtain ⟨q1, v, u1, ad1, hR1, hA1, hV1, hx1, hc1, hw1⟩ := kc_predicted hJ.hA hJ.hV a1 a2 1 h
    have hJ1 : LJ (fr S1 u1 w) u1 S2 ad1 am q1 q ao dx := hJ.cls hA1 hV1 hc1
    have hJ2 : LJ w1 u1 S2 ad1 am q1 q ao dx := by
      rcases hw1 with ⟨-, rfl⟩ | ⟨-, rfl⟩
      · exact hJ1.rowJ
      · exact hJ1
    have hr1 : r = 0 → aJ w1 ao 0 = v.toInt64 := fun z => by
      rcases hw1 with ⟨-, rfl⟩ | ⟨h9, -⟩
      · exact (aJ_tJ1 0).trans (if_pos rfl)
      · exact absurd z h9
    refine v_istore C [(6, .int r), (5, .int iv), (4, .ref dx), (3, .ref ao), (2, .ref (am 0)), (1, .ref (ad 0 0)), (0, .ref b)] (by decide) rfl dL_law_1261 ?_
    refine v_aload_n C 4 rfl rfl dL_law_1263 ?_
    refine v_aload_n C 6 rfl rfl dL_law_1264 ?_
    refine v_iload C 1 rfl dL_law_1265 ?_
    refine v_iconst C 1 (by decide) dL_law_1267 ?_
    refine v_iadd C dL_law_1268 ?_
    refine v_sld C hX hbl hbA h1 e1 dL_law_1269 ?_
    refine v_aload_n C 6 rfl rfl dL_law_1270 ?_
    refine v_iload C 1 rfl dL_law_1271 ?_
    refine v_iconst C 2 (by decide) dL_law_1273 ?_
    refine v_iadd C dL_law_1274 ?_
    refine v_sld C hX hbl hbA h2 e2 dL_law_1275 ?_
    refine v_aload_n C 6 rfl rfl dL_law_1276 ?_
    refine v_iload C 1 rfl dL_law_1277 ?_
    refine v_iconst C 3 (by decide) dL_law_1279 ?_
    refine v_iadd C dL_law_1280 ?_
    refine v_sld C hX hbl hbA h3 e3 dL_law_1281 ?_
    refine v_if_eq C 1289 (by decide) dL_law_1282 (fun q9 => absurd q9 c1249) (fun _ => ?_)
    refine v_iconst C 1 (by decide) dL_law_1285 ?_
    refine v_goto C 1290 (by decide) dL_law_1286 ?_
    refine v_callVi C (st := []) [.int a1, .int a2, .int 1] ((c_X5_predicted l S2 am q hI.1 hJ2.nA hJ2.nV a1 a2 1).frmI hJ2.i2) ml_RL_197 mi_yX5_predicted hJ2.km (by decide) (by decide +kernel) rfl (Nat.le_of_ble_eq_true rfl) (Nat.le_of_ble_eq_true rfl) (Nat.le_of_ble_eq_true rfl) (by show _ + 0 ≤ 603072; omega) (by show _ + 0 ≤ 7207018; omega) dL_law_1290 (fun v2 w2 h => ?_) _ rfl
    obtain ⟨u2, hf2, hc2, rfl⟩ := h
    obtain ⟨q2, am2, hR2, hA2, hV2, hx2⟩ := km_predicted hJ2.nA hJ2.nV a1 a2 1 hf2
    obtain ⟨hκ, hq, hv⟩ := kf_predicted hI.1 a1 a2 1 hR1 hR2
    have hI2 := ki_predicted hI a1 a2 1 hR1
    subst hq
    have hJ3 : LJ (fr S2 u2 w1) u1 u2 ad1 am2 q1 q1 ao dx := hJ2.mod hA2 hV2 hc2
    have hr3 : r = 0 → aJ (fr S2 u2 w1) ao 0 = v2.toInt64 := fun z => by
      rw [hJ2.modJ hc2, hr1 z, hv z]
    refine v_istore C [(7, .int v2), (6, .int r), (5, .int iv), (4, .ref dx), (3, .ref ao), (2, .ref (am 0)), (1, .ref (ad 0 0)), (0, .ref b)] (by decide) rfl dL_law_1293 ?_
    refine v_aload_n C 5 rfl rfl dL_law_1295 ?_
    refine v_callVi C (st := []) [] ((thr_of l hA2 hx2).frmI hJ3.i2) ml_RL_120 mi_yX5_thrown (hx2 ▸ hJ3.km) (by decide) (by decide +kernel) rfl (Nat.le_of_ble_eq_true rfl) (Nat.le_of_ble_eq_true rfl) (Nat.le_of_ble_eq_true rfl) (by show _ + 0 ≤ 603072; omega) (by show _ + 0 ≤ 7207018; omega) dL_law_1296 (fun r3 w3 h => ?_) _ rfl
    obtain ⟨u3, ⟨hr4, rfl⟩, hc3, rfl⟩ := h
    rw [fr_self hJ3.i2]
    refine v_iload C 1 rfl dL_law_1299 ?_
    refine v_icmp_eq C 1306 (by decide) dL_law_1301 (fun c1301 => ?_) (fun q => ((q (hr4.symm.trans hκ.symm) : False)).elim)
    refine v_iload C 1 rfl dL_law_1306 ?_
    refine v_if_ne C 1323 (by decide) dL_law_1308 (fun hz => ?_) (fun hz => ?_)
    · refine v_goto C 1969 (by decide) dL_law_1323 ?_
      exact V.sub [2, 3, 4, 5, 6, 7] rfl (kk _ _ _ ad1 am2 q1 _ _ _ hJ3 hx1 hx2 hI2 (Or.inl ⟨rfl, by omega, by omega⟩))
    · refine v_aload_n C 4 rfl rfl dL_law_1311 ?_
      refine v_iconst C 0 (by decide) dL_law_1312 ?_
      refine v_lald C v2.toInt64 hJ3.rao.1 (by rw [hJ3.rao.2.1]; unfold vp_in; decide) (hr3 hz) dL_law_1313 ?_
      refine v_iload C 0 rfl dL_law_1314 ?_
      refine v_i2l C dL_law_1316 ?_
      refine v_lcmp C dL_law_1317 ?_
      refine v_if_eq C 1323 (by decide) dL_law_1318 (fun c1318 => ?_) (fun q => ((q (lg_cmp_rf _) : False)).elim)
      refine v_goto C 1969 (by decide) dL_law_1323 ?_
      exact V.sub [2, 3, 4, 5, 6, 7] rfl (kk _ _ _ ad1 am2 q1 _ _ _ hJ3 hx1 hx2 hI2 (Or.inl ⟨rfl, by omega, by omega⟩))
set_option maxRecDepth 100000 in
set_option maxHeartbeats 4000000 in
theorem lw_hits {l : Launch} {pP : Program} {eE : Env} {sS : State} {mM : MethodId} {aA : Array Value} {bB : List Frame} {tT : Method} {cC : Code} {G : GT} {A : Nat → Prop} {Q : State → Prop} (hlf : l.stackTraces = false) (C : Cx pP l eE room_1 sS mM aA bB tT cC cL_law 9 RL G A) {b L : Nat} {xs : Nat → Int32} (hX : va_X b L xs sS sS.heap) (hbl : b < sS.heap.size) (hbA : ¬ A b) (iv : Int32) (hin : ∀ z : Int32, z = 1 ∨ z = 2 ∨ z = 3 ∨ z = 4 → vp_in (iv + z) L) (w S1 S2 : HS) (ad : AD) (am : AM) (q : AS) (ao dx : Nat) (hJ : LJ w S1 S2 ad am q q ao dx) (B k n : Nat) (hI : INV q B) (hB : B ≤ 257) (hk : k + 1000 ≤ 603072) (hn : n + 30000 ≤ 7207018) (kk : ∀ (w' S1' S2' : HS) (ad' : AD) (am' : AM) (q' : AS) (B' k' n' : Nat), LJ w' S1' S2' ad' am' q' q' ao dx → ad' 0 0 = ad 0 0 → am' 0 = am 0 → INV q' B' → LB q q' B B' k n k' n' → V pP l eE room_1 sS mM aA bB tT cC 9 G A w' k' n' Q 1969 [(5, .int iv), (4, .ref dx), (3, .ref ao), (2, .ref (am 0)), (1, .ref (ad 0 0)), (0, .ref b)] []) : V pP l eE room_1 sS mM aA bB tT cC 9 G A w k n Q 1326 [(5, .int iv), (4, .ref dx), (3, .ref ao), (2, .ref (am 0)), (1, .ref (ad 0 0)), (0, .ref b)] [] := by
  have h1 := hin 1 (by decide)
  obtain ⟨a1, e1⟩ : ∃ z, xs (iv + 1).toNatClampNeg = z := ⟨_, rfl⟩
  refine v_aload_n C 4 rfl rfl dL_law_1326 ?_
  refine v_aload_n C 5 rfl rfl dL_law_1327 ?_
  refine v_iload C 0 rfl dL_law_1328 ?_
  refine v_iconst C 1 (by decide) dL_law_1330 ?_
  refine v_iadd C dL_law_1331 ?_
  refine v_sld C hX hbl hbA h1 e1 dL_law_1332 ?_
  refine v_aload_n C 2 rfl rfl dL_law_1333 ?_
  refine v_callSHi C (st := []) [.ref (ad 0 0), .int a1, .ref ao] (c_L_hits l w S1 hJ.i1 (ad 0 0) ao a1 _ _ (c_X4_hits l hlf S1 ad q hI.1 hJ.hA hJ.hV a1) (fun E u hx => hx.1) hJ.kx hJ.rao.1 hJ.rao.2.1 hJ.rao.2.2.1) mlh_RL_198 rfl (Nat.le_of_ble_eq_true rfl) (Nat.le_of_ble_eq_true rfl) (Nat.le_of_ble_eq_true rfl) (by show _ + 1 ≤ 603072; omega) (by show _ + 6 ≤ 7207018; omega) dL_law_1334 (fun r w1 h => ?_) _ rfl
  obtain ⟨q1, v, u1, ad1, hR1, hA1, hV1, hx1, hc1, hw1⟩ := kc_hits hJ.hA hJ.hV a1 h
  have hJ1 : LJ (fr S1 u1 w) u1 S2 ad1 am q1 q ao dx := hJ.cls hA1 hV1 hc1
  have hJ2 : LJ w1 u1 S2 ad1 am q1 q ao dx := by
    rcases hw1 with ⟨-, rfl⟩ | ⟨-, rfl⟩
    · exact hJ1.rowJ
    · exact hJ1
  have hr1 : r = 0 → aJ w1 ao 0 = v.toInt64 := fun z => by
    rcases hw1 with ⟨-, rfl⟩ | ⟨h9, -⟩
    · exact (aJ_tJ1 0).trans (if_pos rfl)
    · exact absurd z h9
  refine v_istore C [(6, .int r), (5, .int iv), (4, .ref dx), (3, .ref ao), (2, .ref (am 0)), (1, .ref (ad 0 0)), (0, .ref b)] (by decide) rfl dL_law_1337 ?_
  refine v_aload_n C 4 rfl rfl dL_law_1339 ?_
  refine v_aload_n C 6 rfl rfl dL_law_1340 ?_
  refine v_iload C 1 rfl dL_law_1341 ?_
  refine v_iconst C 1 (by decide) dL_law_1343 ?_
  refine v_iadd C dL_law_1344 ?_
  refine v_sld C hX hbl hbA h1 e1 dL_law_1345 ?_
  refine v_callVi C (st := []) [.int a1] ((c_X5_hits l S2 am q hJ2.nA hJ2.nV a1).frmI hJ2.i2) ml_RL_200 mi_yX5_hits hJ2.km (by decide) (by decide +kernel) rfl (Nat.le_of_ble_eq_true rfl) (Nat.le_of_ble_eq_true rfl) (Nat.le_of_ble_eq_true rfl) (by show _ + 0 ≤ 603072; omega) (by show _ + 0 ≤ 7207018; omega) dL_law_1346 (fun v2 w2 h => ?_) _ rfl
  obtain ⟨u2, hf2, hc2, rfl⟩ := h
  obtain ⟨q2, am2, hR2, hA2, hV2, hx2⟩ := km_hits hJ2.nA hJ2.nV a1 hf2
  obtain ⟨hκ, hq, hv⟩ := kf_hits hI.1 a1 hR1 hR2
  have hI2 := ki_hits hI a1 hR1
  subst hq
  have hJ3 : LJ (fr S2 u2 w1) u1 u2 ad1 am2 q1 q1 ao dx := hJ2.mod hA2 hV2 hc2
  have hr3 : r = 0 → aJ (fr S2 u2 w1) ao 0 = v2.toInt64 := fun z => by
    rw [hJ2.modJ hc2, hr1 z, hv z]
  refine v_istore C [(7, .int v2), (6, .int r), (5, .int iv), (4, .ref dx), (3, .ref ao), (2, .ref (am 0)), (1, .ref (ad 0 0)), (0, .ref b)] (by decide) rfl dL_law_1349 ?_
  refine v_aload_n C 5 rfl rfl dL_law_1351 ?_
  refine v_callVi C (st := []) [] ((thr_of l hA2 hx2).frmI hJ3.i2) ml_RL_120 mi_yX5_thrown (hx2 ▸ hJ3.km) (by decide) (by decide +kernel) rfl (Nat.le_of_ble_eq_true rfl) (Nat.le_of_ble_eq_true rfl) (Nat.le_of_ble_eq_true rfl) (by show _ + 0 ≤ 603072; omega) (by show _ + 0 ≤ 7207018; omega) dL_law_1352 (fun r3 w3 h => ?_) _ rfl
  obtain ⟨u3, ⟨hr4, rfl⟩, hc3, rfl⟩ := h
  rw [fr_self hJ3.i2]
  refine v_iload C 1 rfl dL_law_1355 ?_
  refine v_icmp_eq C 1362 (by decide) dL_law_1357 (fun c1357 => ?_) (fun q => ((q (hr4.symm.trans hκ.symm) : False)).elim)
  refine v_iload C 1 rfl dL_law_1362 ?_
  refine v_if_ne C 1379 (by decide) dL_law_1364 (fun hz => ?_) (fun hz => ?_)
  · refine v_goto C 1969 (by decide) dL_law_1379 ?_
    exact V.sub [2, 3, 4, 5, 6, 7] rfl (kk _ _ _ ad1 am2 q1 _ _ _ hJ3 hx1 hx2 hI2 (Or.inl ⟨rfl, by omega, by omega⟩))
  · refine v_aload_n C 4 rfl rfl dL_law_1367 ?_
    refine v_iconst C 0 (by decide) dL_law_1368 ?_
    refine v_lald C v2.toInt64 hJ3.rao.1 (by rw [hJ3.rao.2.1]; unfold vp_in; decide) (hr3 hz) dL_law_1369 ?_
    refine v_iload C 0 rfl dL_law_1370 ?_
    refine v_i2l C dL_law_1372 ?_
    refine v_lcmp C dL_law_1373 ?_
    refine v_if_eq C 1379 (by decide) dL_law_1374 (fun c1374 => ?_) (fun q => ((q (lg_cmp_rf _) : False)).elim)
    refine v_goto C 1969 (by decide) dL_law_1379 ?_
    exact V.sub [2, 3, 4, 5, 6, 7] rfl (kk _ _ _ ad1 am2 q1 _ _ _ hJ3 hx1 hx2 hI2 (Or.inl ⟨rfl, by omega, by omega⟩))
set_option maxRecDepth 100000 in
set_option maxHeartbeats 4000000 in
theorem lw_misses {l : Launch} {pP : Program} {eE : Env} {sS : State} {mM : MethodId} {aA : Array Value} {bB : List Frame} {tT : Method} {cC : Code} {G : GT} {A : Nat → Prop} {Q : State → Prop} (hlf : l.stackTraces = false) (C : Cx pP l eE room_1 sS mM aA bB tT cC cL_law 9 RL G A) {b L : Nat} {xs : Nat → Int32} (hX : va_X b L xs sS sS.heap) (hbl : b < sS.heap.size) (hbA : ¬ A b) (iv : Int32) (hin : ∀ z : Int32, z = 1 ∨ z = 2 ∨ z = 3 ∨ z = 4 → vp_in (iv + z) L) (w S1 S2 : HS) (ad : AD) (am : AM) (q : AS) (ao dx : Nat) (hJ : LJ w S1 S2 ad am q q ao dx) (B k n : Nat) (hI : INV q B) (hB : B ≤ 257) (hk : k + 1000 ≤ 603072) (hn : n + 30000 ≤ 7207018) (kk : ∀ (w' S1' S2' : HS) (ad' : AD) (am' : AM) (q' : AS) (B' k' n' : Nat), LJ w' S1' S2' ad' am' q' q' ao dx → ad' 0 0 = ad 0 0 → am' 0 = am 0 → INV q' B' → LB q q' B B' k n k' n' → V pP l eE room_1 sS mM aA bB tT cC 9 G A w' k' n' Q 1969 [(5, .int iv), (4, .ref dx), (3, .ref ao), (2, .ref (am 0)), (1, .ref (ad 0 0)), (0, .ref b)] []) : V pP l eE room_1 sS mM aA bB tT cC 9 G A w k n Q 1382 [(5, .int iv), (4, .ref dx), (3, .ref ao), (2, .ref (am 0)), (1, .ref (ad 0 0)), (0, .ref b)] [] := by
  have h1 := hin 1 (by decide)
  obtain ⟨a1, e1⟩ : ∃ z, xs (iv + 1).toNatClampNeg = z := ⟨_, rfl⟩
  refine v_aload_n C 4 rfl rfl dL_law_1382 ?_
  refine v_aload_n C 5 rfl rfl dL_law_1383 ?_
  refine v_iload C 0 rfl dL_law_1384 ?_
  refine v_iconst C 1 (by decide) dL_law_1386 ?_
  refine v_iadd C dL_law_1387 ?_
  refine v_sld C hX hbl hbA h1 e1 dL_law_1388 ?_
  refine v_aload_n C 2 rfl rfl dL_law_1389 ?_
  refine v_callSHi C (st := []) [.ref (ad 0 0), .int a1, .ref ao] (c_L_misses l w S1 hJ.i1 (ad 0 0) ao a1 _ _ (c_X4_misses l hlf S1 ad q hI.1 hJ.hA hJ.hV a1) (fun E u hx => hx.1) hJ.kx hJ.rao.1 hJ.rao.2.1 hJ.rao.2.2.1) mlh_RL_201 rfl (Nat.le_of_ble_eq_true rfl) (Nat.le_of_ble_eq_true rfl) (Nat.le_of_ble_eq_true rfl) (by show _ + 1 ≤ 603072; omega) (by show _ + 6 ≤ 7207018; omega) dL_law_1390 (fun r w1 h => ?_) _ rfl
  obtain ⟨q1, v, u1, ad1, hR1, hA1, hV1, hx1, hc1, hw1⟩ := kc_misses hJ.hA hJ.hV a1 h
  have hJ1 : LJ (fr S1 u1 w) u1 S2 ad1 am q1 q ao dx := hJ.cls hA1 hV1 hc1
  have hJ2 : LJ w1 u1 S2 ad1 am q1 q ao dx := by
    rcases hw1 with ⟨-, rfl⟩ | ⟨-, rfl⟩
    · exact hJ1.rowJ
    · exact hJ1
  have hr1 : r = 0 → aJ w1 ao 0 = v.toInt64 := fun z => by
    rcases hw1 with ⟨-, rfl⟩ | ⟨h9, -⟩
    · exact (aJ_tJ1 0).trans (if_pos rfl)
    · exact absurd z h9
  refine v_istore C [(6, .int r), (5, .int iv), (4, .ref dx), (3, .ref ao), (2, .ref (am 0)), (1, .ref (ad 0 0)), (0, .ref b)] (by decide) rfl dL_law_1393 ?_
  refine v_aload_n C 4 rfl rfl dL_law_1395 ?_
  refine v_aload_n C 6 rfl rfl dL_law_1396 ?_
  refine v_iload C 1 rfl dL_law_1397 ?_
  refine v_iconst C 1 (by decide) dL_law_1399 ?_
  refine v_iadd C dL_law_1400 ?_
  refine v_sld C hX hbl hbA h1 e1 dL_law_1401 ?_
  refine v_callVi C (st := []) [.int a1] ((c_X5_misses l S2 am q hJ2.nA hJ2.nV a1).frmI hJ2.i2) ml_RL_203 mi_yX5_misses hJ2.km (by decide) (by decide +kernel) rfl (Nat.le_of_ble_eq_true rfl) (Nat.le_of_ble_eq_true rfl) (Nat.le_of_ble_eq_true rfl) (by show _ + 0 ≤ 603072; omega) (by show _ + 0 ≤ 7207018; omega) dL_law_1402 (fun v2 w2 h => ?_) _ rfl
  obtain ⟨u2, hf2, hc2, rfl⟩ := h
  obtain ⟨q2, am2, hR2, hA2, hV2, hx2⟩ := km_misses hJ2.nA hJ2.nV a1 hf2
  obtain ⟨hκ, hq, hv⟩ := kf_misses hI.1 a1 hR1 hR2
  have hI2 := ki_misses hI a1 hR1
  subst hq
  have hJ3 : LJ (fr S2 u2 w1) u1 u2 ad1 am2 q1 q1 ao dx := hJ2.mod hA2 hV2 hc2
  have hr3 : r = 0 → aJ (fr S2 u2 w1) ao 0 = v2.toInt64 := fun z => by
    rw [hJ2.modJ hc2, hr1 z, hv z]
  refine v_istore C [(7, .int v2), (6, .int r), (5, .int iv), (4, .ref dx), (3, .ref ao), (2, .ref (am 0)), (1, .ref (ad 0 0)), (0, .ref b)] (by decide) rfl dL_law_1405 ?_
  refine v_aload_n C 5 rfl rfl dL_law_1407 ?_
  refine v_callVi C (st := []) [] ((thr_of l hA2 hx2).frmI hJ3.i2) ml_RL_120 mi_yX5_thrown (hx2 ▸ hJ3.km) (by decide) (by decide +kernel) rfl (Nat.le_of_ble_eq_true rfl) (Nat.le_of_ble_eq_true rfl) (Nat.le_of_ble_eq_true rfl) (by show _ + 0 ≤ 603072; omega) (by show _ + 0 ≤ 7207018; omega) dL_law_1408 (fun r3 w3 h => ?_) _ rfl
  obtain ⟨u3, ⟨hr4, rfl⟩, hc3, rfl⟩ := h
  rw [fr_self hJ3.i2]
  refine v_iload C 1 rfl dL_law_1411 ?_
  refine v_icmp_eq C 1418 (by decide) dL_law_1413 (fun c1413 => ?_) (fun q => ((q (hr4.symm.trans hκ.symm) : False)).elim)
  refine v_iload C 1 rfl dL_law_1418 ?_
  refine v_if_ne C 1435 (by decide) dL_law_1420 (fun hz => ?_) (fun hz => ?_)
  · refine v_goto C 1969 (by decide) dL_law_1435 ?_
    exact V.sub [2, 3, 4, 5, 6, 7] rfl (kk _ _ _ ad1 am2 q1 _ _ _ hJ3 hx1 hx2 hI2 (Or.inl ⟨rfl, by omega, by omega⟩))
  · refine v_aload_n C 4 rfl rfl dL_law_1423 ?_
    refine v_iconst C 0 (by decide) dL_law_1424 ?_
    refine v_lald C v2.toInt64 hJ3.rao.1 (by rw [hJ3.rao.2.1]; unfold vp_in; decide) (hr3 hz) dL_law_1425 ?_
    refine v_iload C 0 rfl dL_law_1426 ?_
    refine v_i2l C dL_law_1428 ?_
    refine v_lcmp C dL_law_1429 ?_
    refine v_if_eq C 1435 (by decide) dL_law_1430 (fun c1430 => ?_) (fun q => ((q (lg_cmp_rf _) : False)).elim)
    refine v_goto C 1969 (by decide) dL_law_1435 ?_
    exact V.sub [2, 3, 4, 5, 6, 7] rfl (kk _ _ _ ad1 am2 q1 _ _ _ hJ3 hx1 hx2 hI2 (Or.inl ⟨rfl, by omega, by omega⟩))
set_option maxRecDepth 100000 in
set_option maxHeartbeats 4000000 in
theorem lw_mergedInto {l : Launch} {pP : Program} {eE : Env} {sS : State} {mM : MethodId} {aA : Array Value} {bB : List Frame} {tT : Method} {cC : Code} {G : GT} {A : Nat → Prop} {Q : State → Prop} (hlf : l.stackTraces = false) (C : Cx pP l eE room_1 sS mM aA bB tT cC cL_law 9 RL G A) {b L : Nat} {xs : Nat → Int32} (hX : va_X b L xs sS sS.heap) (hbl : b < sS.heap.size) (hbA : ¬ A b) (iv : Int32) (hin : ∀ z : Int32, z = 1 ∨ z = 2 ∨ z = 3 ∨ z = 4 → vp_in (iv + z) L) (w S1 S2 : HS) (ad : AD) (am : AM) (q : AS) (ao dx : Nat) (hJ : LJ w S1 S2 ad am q q ao dx) (B k n : Nat) (hI : INV q B) (hB : B ≤ 257) (hk : k + 1000 ≤ 603072) (hn : n + 30000 ≤ 7207018) (kk : ∀ (w' S1' S2' : HS) (ad' : AD) (am' : AM) (q' : AS) (B' k' n' : Nat), LJ w' S1' S2' ad' am' q' q' ao dx → ad' 0 0 = ad 0 0 → am' 0 = am 0 → INV q' B' → LB q q' B B' k n k' n' → V pP l eE room_1 sS mM aA bB tT cC 9 G A w' k' n' Q 1969 [(5, .int iv), (4, .ref dx), (3, .ref ao), (2, .ref (am 0)), (1, .ref (ad 0 0)), (0, .ref b)] []) : V pP l eE room_1 sS mM aA bB tT cC 9 G A w k n Q 1438 [(5, .int iv), (4, .ref dx), (3, .ref ao), (2, .ref (am 0)), (1, .ref (ad 0 0)), (0, .ref b)] [] := by
  have h1 := hin 1 (by decide)
  obtain ⟨a1, e1⟩ : ∃ z, xs (iv + 1).toNatClampNeg = z := ⟨_, rfl⟩
  refine v_aload_n C 4 rfl rfl dL_law_1438 ?_
  refine v_aload_n C 5 rfl rfl dL_law_1439 ?_
  refine v_iload C 0 rfl dL_law_1440 ?_
  refine v_iconst C 1 (by decide) dL_law_1442 ?_
  refine v_iadd C dL_law_1443 ?_
  refine v_sld C hX hbl hbA h1 e1 dL_law_1444 ?_
  refine v_aload_n C 2 rfl rfl dL_law_1445 ?_
  refine v_callSHi C (st := []) [.ref (ad 0 0), .int a1, .ref ao] (c_L_mergedInto l w S1 hJ.i1 (ad 0 0) ao a1 _ _ (c_X4_mergedInto l hlf S1 ad q hI.1 hJ.hA hJ.hV hI.2.2.1 a1) (fun E u hx => hx.2.imp And.left And.left) hJ.kx hJ.rao.1 hJ.rao.2.1 hJ.rao.2.2.1) mlh_RL_204 rfl (Nat.le_of_ble_eq_true rfl) (Nat.le_of_ble_eq_true rfl) (Nat.le_of_ble_eq_true rfl) (by show _ + 2 ≤ 603072; omega) (by show _ + 12 ≤ 7207018; omega) dL_law_1446 (fun r w1 h => ?_) _ rfl
  obtain ⟨q1, v, u1, ad1, hR1, hA1, hV1, hx1, hc1, hw1⟩ := kc_mergedInto hJ.hA hJ.hV a1 h
  have hJ1 : LJ (fr S1 u1 w) u1 S2 ad1 am q1 q ao dx := hJ.cls hA1 hV1 hc1
  have hJ2 : LJ w1 u1 S2 ad1 am q1 q ao dx := by
    rcases hw1 with ⟨-, rfl⟩ | ⟨-, rfl⟩
    · exact hJ1.rowJ
    · exact hJ1
  have hr1 : r = 0 → aJ w1 ao 0 = v.toInt64 := fun z => by
    rcases hw1 with ⟨-, rfl⟩ | ⟨h9, -⟩
    · exact (aJ_tJ1 0).trans (if_pos rfl)
    · exact absurd z h9
  refine v_istore C [(6, .int r), (5, .int iv), (4, .ref dx), (3, .ref ao), (2, .ref (am 0)), (1, .ref (ad 0 0)), (0, .ref b)] (by decide) rfl dL_law_1449 ?_
  refine v_aload_n C 4 rfl rfl dL_law_1451 ?_
  refine v_aload_n C 6 rfl rfl dL_law_1452 ?_
  refine v_iload C 1 rfl dL_law_1453 ?_
  refine v_iconst C 1 (by decide) dL_law_1455 ?_
  refine v_iadd C dL_law_1456 ?_
  refine v_sld C hX hbl hbA h1 e1 dL_law_1457 ?_
  refine v_callVi C (st := []) [.int a1] ((c_X5_mergedInto l S2 am q hI.1 hJ2.nA hJ2.nV a1).frmI hJ2.i2) ml_RL_206 mi_yX5_mergedInto hJ2.km (by decide) (by decide +kernel) rfl (Nat.le_of_ble_eq_true rfl) (Nat.le_of_ble_eq_true rfl) (Nat.le_of_ble_eq_true rfl) (by show _ + 0 ≤ 603072; omega) (by show _ + 0 ≤ 7207018; omega) dL_law_1458 (fun v2 w2 h => ?_) _ rfl
  obtain ⟨u2, hf2, hc2, rfl⟩ := h
  obtain ⟨q2, am2, hR2, hA2, hV2, hx2⟩ := km_mergedInto hJ2.nA hJ2.nV a1 hf2
  obtain ⟨hκ, hq, hv⟩ := kf_mergedInto hI.1 a1 hR1 hR2
  have hI2 := ki_mergedInto hI a1 hR1
  subst hq
  have hJ3 : LJ (fr S2 u2 w1) u1 u2 ad1 am2 q1 q1 ao dx := hJ2.mod hA2 hV2 hc2
  have hr3 : r = 0 → aJ (fr S2 u2 w1) ao 0 = v2.toInt64 := fun z => by
    rw [hJ2.modJ hc2, hr1 z, hv z]
  refine v_istore C [(7, .int v2), (6, .int r), (5, .int iv), (4, .ref dx), (3, .ref ao), (2, .ref (am 0)), (1, .ref (ad 0 0)), (0, .ref b)] (by decide) rfl dL_law_1461 ?_
  refine v_aload_n C 5 rfl rfl dL_law_1463 ?_
  refine v_callVi C (st := []) [] ((thr_of l hA2 hx2).frmI hJ3.i2) ml_RL_120 mi_yX5_thrown (hx2 ▸ hJ3.km) (by decide) (by decide +kernel) rfl (Nat.le_of_ble_eq_true rfl) (Nat.le_of_ble_eq_true rfl) (Nat.le_of_ble_eq_true rfl) (by show _ + 0 ≤ 603072; omega) (by show _ + 0 ≤ 7207018; omega) dL_law_1464 (fun r3 w3 h => ?_) _ rfl
  obtain ⟨u3, ⟨hr4, rfl⟩, hc3, rfl⟩ := h
  rw [fr_self hJ3.i2]
  refine v_iload C 1 rfl dL_law_1467 ?_
  refine v_icmp_eq C 1474 (by decide) dL_law_1469 (fun c1469 => ?_) (fun q => ((q (hr4.symm.trans hκ.symm) : False)).elim)
  refine v_iload C 1 rfl dL_law_1474 ?_
  refine v_if_ne C 1491 (by decide) dL_law_1476 (fun hz => ?_) (fun hz => ?_)
  · refine v_goto C 1969 (by decide) dL_law_1491 ?_
    exact V.sub [2, 3, 4, 5, 6, 7] rfl (kk _ _ _ ad1 am2 q1 _ _ _ hJ3 hx1 hx2 hI2 (Or.inl ⟨rfl, by omega, by omega⟩))
  · refine v_aload_n C 4 rfl rfl dL_law_1479 ?_
    refine v_iconst C 0 (by decide) dL_law_1480 ?_
    refine v_lald C v2.toInt64 hJ3.rao.1 (by rw [hJ3.rao.2.1]; unfold vp_in; decide) (hr3 hz) dL_law_1481 ?_
    refine v_iload C 0 rfl dL_law_1482 ?_
    refine v_i2l C dL_law_1484 ?_
    refine v_lcmp C dL_law_1485 ?_
    refine v_if_eq C 1491 (by decide) dL_law_1486 (fun c1486 => ?_) (fun q => ((q (lg_cmp_rf _) : False)).elim)
    refine v_goto C 1969 (by decide) dL_law_1491 ?_
    exact V.sub [2, 3, 4, 5, 6, 7] rfl (kk _ _ _ ad1 am2 q1 _ _ _ hJ3 hx1 hx2 hI2 (Or.inl ⟨rfl, by omega, by omega⟩))
set_option maxRecDepth 100000 in
set_option maxHeartbeats 4000000 in
theorem lw_historyLength {l : Launch} {pP : Program} {eE : Env} {sS : State} {mM : MethodId} {aA : Array Value} {bB : List Frame} {tT : Method} {cC : Code} {G : GT} {A : Nat → Prop} {Q : State → Prop} (hlf : l.stackTraces = false) (C : Cx pP l eE room_1 sS mM aA bB tT cC cL_law 9 RL G A) {b L : Nat} {xs : Nat → Int32} (hX : va_X b L xs sS sS.heap) (hbl : b < sS.heap.size) (hbA : ¬ A b) (iv : Int32) (hin : ∀ z : Int32, z = 1 ∨ z = 2 ∨ z = 3 ∨ z = 4 → vp_in (iv + z) L) (w S1 S2 : HS) (ad : AD) (am : AM) (q : AS) (ao dx : Nat) (hJ : LJ w S1 S2 ad am q q ao dx) (B k n : Nat) (hI : INV q B) (hB : B ≤ 257) (hk : k + 1000 ≤ 603072) (hn : n + 30000 ≤ 7207018) (kk : ∀ (w' S1' S2' : HS) (ad' : AD) (am' : AM) (q' : AS) (B' k' n' : Nat), LJ w' S1' S2' ad' am' q' q' ao dx → ad' 0 0 = ad 0 0 → am' 0 = am 0 → INV q' B' → LB q q' B B' k n k' n' → V pP l eE room_1 sS mM aA bB tT cC 9 G A w' k' n' Q 1969 [(5, .int iv), (4, .ref dx), (3, .ref ao), (2, .ref (am 0)), (1, .ref (ad 0 0)), (0, .ref b)] []) : V pP l eE room_1 sS mM aA bB tT cC 9 G A w k n Q 1494 [(5, .int iv), (4, .ref dx), (3, .ref ao), (2, .ref (am 0)), (1, .ref (ad 0 0)), (0, .ref b)] [] := by
  have h1 := hin 1 (by decide)
  obtain ⟨a1, e1⟩ : ∃ z, xs (iv + 1).toNatClampNeg = z := ⟨_, rfl⟩
  refine v_aload_n C 4 rfl rfl dL_law_1494 ?_
  refine v_aload_n C 5 rfl rfl dL_law_1495 ?_
  refine v_iload C 0 rfl dL_law_1496 ?_
  refine v_iconst C 1 (by decide) dL_law_1498 ?_
  refine v_iadd C dL_law_1499 ?_
  refine v_sld C hX hbl hbA h1 e1 dL_law_1500 ?_
  refine v_aload_n C 2 rfl rfl dL_law_1501 ?_
  refine v_callSHi C (st := []) [.ref (ad 0 0), .int a1, .ref ao] (c_L_historyLength l w S1 hJ.i1 (ad 0 0) ao a1 _ _ (c_X4_historyLength l hlf S1 ad q hI.1 hJ.hA hJ.hV a1) (fun E u hx => hx.1) hJ.kx hJ.rao.1 hJ.rao.2.1 hJ.rao.2.2.1) mlh_RL_207 rfl (Nat.le_of_ble_eq_true rfl) (Nat.le_of_ble_eq_true rfl) (Nat.le_of_ble_eq_true rfl) (by show _ + 1 ≤ 603072; omega) (by show _ + 6 ≤ 7207018; omega) dL_law_1502 (fun r w1 h => ?_) _ rfl
  obtain ⟨q1, v, u1, ad1, hR1, hA1, hV1, hx1, hc1, hw1⟩ := kc_historyLength hJ.hA hJ.hV a1 h
  have hJ1 : LJ (fr S1 u1 w) u1 S2 ad1 am q1 q ao dx := hJ.cls hA1 hV1 hc1
  have hJ2 : LJ w1 u1 S2 ad1 am q1 q ao dx := by
    rcases hw1 with ⟨-, rfl⟩ | ⟨-, rfl⟩
    · exact hJ1.rowJ
    · exact hJ1
  have hr1 : r = 0 → aJ w1 ao 0 = v.toInt64 := fun z => by
    rcases hw1 with ⟨-, rfl⟩ | ⟨h9, -⟩
    · exact (aJ_tJ1 0).trans (if_pos rfl)
    · exact absurd z h9
  refine v_istore C [(6, .int r), (5, .int iv), (4, .ref dx), (3, .ref ao), (2, .ref (am 0)), (1, .ref (ad 0 0)), (0, .ref b)] (by decide) rfl dL_law_1505 ?_
  refine v_aload_n C 4 rfl rfl dL_law_1507 ?_
  refine v_aload_n C 6 rfl rfl dL_law_1508 ?_
  refine v_iload C 1 rfl dL_law_1509 ?_
  refine v_iconst C 1 (by decide) dL_law_1511 ?_
  refine v_iadd C dL_law_1512 ?_
  refine v_sld C hX hbl hbA h1 e1 dL_law_1513 ?_
  refine v_callVi C (st := []) [.int a1] ((c_X5_historyLength l S2 am q hJ2.nA hJ2.nV a1).frmI hJ2.i2) ml_RL_209 mi_yX5_historyLength hJ2.km (by decide) (by decide +kernel) rfl (Nat.le_of_ble_eq_true rfl) (Nat.le_of_ble_eq_true rfl) (Nat.le_of_ble_eq_true rfl) (by show _ + 0 ≤ 603072; omega) (by show _ + 0 ≤ 7207018; omega) dL_law_1514 (fun v2 w2 h => ?_) _ rfl
  obtain ⟨u2, hf2, hc2, rfl⟩ := h
  obtain ⟨q2, am2, hR2, hA2, hV2, hx2⟩ := km_historyLength hJ2.nA hJ2.nV a1 hf2
  obtain ⟨hκ, hq, hv⟩ := kf_historyLength hI.1 a1 hR1 hR2
  have hI2 := ki_historyLength hI a1 hR1
  subst hq
  have hJ3 : LJ (fr S2 u2 w1) u1 u2 ad1 am2 q1 q1 ao dx := hJ2.mod hA2 hV2 hc2
  have hr3 : r = 0 → aJ (fr S2 u2 w1) ao 0 = v2.toInt64 := fun z => by
    rw [hJ2.modJ hc2, hr1 z, hv z]
  refine v_istore C [(7, .int v2), (6, .int r), (5, .int iv), (4, .ref dx), (3, .ref ao), (2, .ref (am 0)), (1, .ref (ad 0 0)), (0, .ref b)] (by decide) rfl dL_law_1517 ?_
  refine v_aload_n C 5 rfl rfl dL_law_1519 ?_
  refine v_callVi C (st := []) [] ((thr_of l hA2 hx2).frmI hJ3.i2) ml_RL_120 mi_yX5_thrown (hx2 ▸ hJ3.km) (by decide) (by decide +kernel) rfl (Nat.le_of_ble_eq_true rfl) (Nat.le_of_ble_eq_true rfl) (Nat.le_of_ble_eq_true rfl) (by show _ + 0 ≤ 603072; omega) (by show _ + 0 ≤ 7207018; omega) dL_law_1520 (fun r3 w3 h => ?_) _ rfl
  obtain ⟨u3, ⟨hr4, rfl⟩, hc3, rfl⟩ := h
  rw [fr_self hJ3.i2]
  refine v_iload C 1 rfl dL_law_1523 ?_
  refine v_icmp_eq C 1530 (by decide) dL_law_1525 (fun c1525 => ?_) (fun q => ((q (hr4.symm.trans hκ.symm) : False)).elim)
  refine v_iload C 1 rfl dL_law_1530 ?_
  refine v_if_ne C 1547 (by decide) dL_law_1532 (fun hz => ?_) (fun hz => ?_)
  · refine v_goto C 1969 (by decide) dL_law_1547 ?_
    exact V.sub [2, 3, 4, 5, 6, 7] rfl (kk _ _ _ ad1 am2 q1 _ _ _ hJ3 hx1 hx2 hI2 (Or.inl ⟨rfl, by omega, by omega⟩))
  · refine v_aload_n C 4 rfl rfl dL_law_1535 ?_
    refine v_iconst C 0 (by decide) dL_law_1536 ?_
    refine v_lald C v2.toInt64 hJ3.rao.1 (by rw [hJ3.rao.2.1]; unfold vp_in; decide) (hr3 hz) dL_law_1537 ?_
    refine v_iload C 0 rfl dL_law_1538 ?_
    refine v_i2l C dL_law_1540 ?_
    refine v_lcmp C dL_law_1541 ?_
    refine v_if_eq C 1547 (by decide) dL_law_1542 (fun c1542 => ?_) (fun q => ((q (lg_cmp_rf _) : False)).elim)
    refine v_goto C 1969 (by decide) dL_law_1547 ?_
    exact V.sub [2, 3, 4, 5, 6, 7] rfl (kk _ _ _ ad1 am2 q1 _ _ _ hJ3 hx1 hx2 hI2 (Or.inl ⟨rfl, by omega, by omega⟩))
set_option maxRecDepth 100000 in
set_option maxHeartbeats 4000000 in
theorem lw_historyAt {l : Launch} {pP : Program} {eE : Env} {sS : State} {mM : MethodId} {aA : Array Value} {bB : List Frame} {tT : Method} {cC : Code} {G : GT} {A : Nat → Prop} {Q : State → Prop} (hlf : l.stackTraces = false) (C : Cx pP l eE room_1 sS mM aA bB tT cC cL_law 9 RL G A) {b L : Nat} {xs : Nat → Int32} (hX : va_X b L xs sS sS.heap) (hbl : b < sS.heap.size) (hbA : ¬ A b) (iv : Int32) (hin : ∀ z : Int32, z = 1 ∨ z = 2 ∨ z = 3 ∨ z = 4 → vp_in (iv + z) L) (w S1 S2 : HS) (ad : AD) (am : AM) (q : AS) (ao dx : Nat) (hJ : LJ w S1 S2 ad am q q ao dx) (B k n : Nat) (hI : INV q B) (hB : B ≤ 257) (hk : k + 1000 ≤ 603072) (hn : n + 30000 ≤ 7207018) (kk : ∀ (w' S1' S2' : HS) (ad' : AD) (am' : AM) (q' : AS) (B' k' n' : Nat), LJ w' S1' S2' ad' am' q' q' ao dx → ad' 0 0 = ad 0 0 → am' 0 = am 0 → INV q' B' → LB q q' B B' k n k' n' → V pP l eE room_1 sS mM aA bB tT cC 9 G A w' k' n' Q 1969 [(5, .int iv), (4, .ref dx), (3, .ref ao), (2, .ref (am 0)), (1, .ref (ad 0 0)), (0, .ref b)] []) : V pP l eE room_1 sS mM aA bB tT cC 9 G A w k n Q 1550 [(5, .int iv), (4, .ref dx), (3, .ref ao), (2, .ref (am 0)), (1, .ref (ad 0 0)), (0, .ref b)] [] := by
  have h1 := hin 1 (by decide)
  obtain ⟨a1, e1⟩ : ∃ z, xs (iv + 1).toNatClampNeg = z := ⟨_, rfl⟩
  have h2 := hin 2 (by decide)
  obtain ⟨a2, e2⟩ : ∃ z, xs (iv + 2).toNatClampNeg = z := ⟨_, rfl⟩
  refine v_aload_n C 4 rfl rfl dL_law_1550 ?_
  refine v_aload_n C 5 rfl rfl dL_law_1551 ?_
  refine v_iload C 0 rfl dL_law_1552 ?_
  refine v_iconst C 1 (by decide) dL_law_1554 ?_
  refine v_iadd C dL_law_1555 ?_
  refine v_sld C hX hbl hbA h1 e1 dL_law_1556 ?_
  refine v_aload_n C 5 rfl rfl dL_law_1557 ?_
  refine v_iload C 0 rfl dL_law_1558 ?_
  refine v_iconst C 2 (by decide) dL_law_1560 ?_
  refine v_iadd C dL_law_1561 ?_
  refine v_sld C hX hbl hbA h2 e2 dL_law_1562 ?_
  refine v_aload_n C 2 rfl rfl dL_law_1563 ?_
  refine v_callSHi C (st := []) [.ref (ad 0 0), .int a1, .int a2, .ref ao] (c_L_historyAt l w S1 hJ.i1 (ad 0 0) ao a1 a2 _ _ (c_X4_historyAt l hlf S1 ad q hI.1 hJ.hA hJ.hV hI.2.2.2.1 a1 a2) (fun E u hx => hx.2.imp And.left And.left) hJ.kx hJ.rao.1 hJ.rao.2.1 hJ.rao.2.2.1) mlh_RL_210 rfl (Nat.le_of_ble_eq_true rfl) (Nat.le_of_ble_eq_true rfl) (Nat.le_of_ble_eq_true rfl) (by show _ + 2 ≤ 603072; omega) (by show _ + 12 ≤ 7207018; omega) dL_law_1564 (fun r w1 h => ?_) _ rfl
  obtain ⟨q1, v, u1, ad1, hR1, hA1, hV1, hx1, hc1, hw1⟩ := kc_historyAt hJ.hA hJ.hV a1 a2 h
  have hJ1 : LJ (fr S1 u1 w) u1 S2 ad1 am q1 q ao dx := hJ.cls hA1 hV1 hc1
  have hJ2 : LJ w1 u1 S2 ad1 am q1 q ao dx := by
    rcases hw1 with ⟨-, rfl⟩ | ⟨-, rfl⟩
    · exact hJ1.rowJ
    · exact hJ1
  have hr1 : r = 0 → aJ w1 ao 0 = v.toInt64 := fun z => by
    rcases hw1 with ⟨-, rfl⟩ | ⟨h9, -⟩
    · exact (aJ_tJ1 0).trans (if_pos rfl)
    · exact absurd z h9
  refine v_istore C [(6, .int r), (5, .int iv), (4, .ref dx), (3, .ref ao), (2, .ref (am 0)), (1, .ref (ad 0 0)), (0, .ref b)] (by decide) rfl dL_law_1567 ?_
  refine v_aload_n C 4 rfl rfl dL_law_1569 ?_
  refine v_aload_n C 6 rfl rfl dL_law_1570 ?_
  refine v_iload C 1 rfl dL_law_1571 ?_
  refine v_iconst C 1 (by decide) dL_law_1573 ?_
  refine v_iadd C dL_law_1574 ?_
  refine v_sld C hX hbl hbA h1 e1 dL_law_1575 ?_
  refine v_aload_n C 6 rfl rfl dL_law_1576 ?_
  refine v_iload C 1 rfl dL_law_1577 ?_
  refine v_iconst C 2 (by decide) dL_law_1579 ?_
  refine v_iadd C dL_law_1580 ?_
  refine v_sld C hX hbl hbA h2 e2 dL_law_1581 ?_
  refine v_callVi C (st := []) [.int a1, .int a2] ((c_X5_historyAt l S2 am q hI.1 hJ2.nA hJ2.nV hI.2.2.2.1 a1 a2).frmI hJ2.i2) ml_RL_212 mi_yX5_historyAt hJ2.km (by decide) (by decide +kernel) rfl (Nat.le_of_ble_eq_true rfl) (Nat.le_of_ble_eq_true rfl) (Nat.le_of_ble_eq_true rfl) (by show _ + 0 ≤ 603072; omega) (by show _ + 0 ≤ 7207018; omega) dL_law_1582 (fun v2 w2 h => ?_) _ rfl
  obtain ⟨u2, hf2, hc2, rfl⟩ := h
  obtain ⟨q2, am2, hR2, hA2, hV2, hx2⟩ := km_historyAt hJ2.nA hJ2.nV a1 a2 hf2
  obtain ⟨hκ, hq, hv⟩ := kf_historyAt hI.1 a1 a2 hR1 hR2
  have hI2 := ki_historyAt hI a1 a2 hR1
  subst hq
  have hJ3 : LJ (fr S2 u2 w1) u1 u2 ad1 am2 q1 q1 ao dx := hJ2.mod hA2 hV2 hc2
  have hr3 : r = 0 → aJ (fr S2 u2 w1) ao 0 = v2.toInt64 := fun z => by
    rw [hJ2.modJ hc2, hr1 z, hv z]
  refine v_istore C [(7, .int v2), (6, .int r), (5, .int iv), (4, .ref dx), (3, .ref ao), (2, .ref (am 0)), (1, .ref (ad 0 0)), (0, .ref b)] (by decide) rfl dL_law_1585 ?_
  refine v_aload_n C 5 rfl rfl dL_law_1587 ?_
  refine v_callVi C (st := []) [] ((thr_of l hA2 hx2).frmI hJ3.i2) ml_RL_120 mi_yX5_thrown (hx2 ▸ hJ3.km) (by decide) (by decide +kernel) rfl (Nat.le_of_ble_eq_true rfl) (Nat.le_of_ble_eq_true rfl) (Nat.le_of_ble_eq_true rfl) (by show _ + 0 ≤ 603072; omega) (by show _ + 0 ≤ 7207018; omega) dL_law_1588 (fun r3 w3 h => ?_) _ rfl
  obtain ⟨u3, ⟨hr4, rfl⟩, hc3, rfl⟩ := h
  rw [fr_self hJ3.i2]
  refine v_iload C 1 rfl dL_law_1591 ?_
  refine v_icmp_eq C 1598 (by decide) dL_law_1593 (fun c1593 => ?_) (fun q => ((q (hr4.symm.trans hκ.symm) : False)).elim)
  refine v_iload C 1 rfl dL_law_1598 ?_
  refine v_if_ne C 1615 (by decide) dL_law_1600 (fun hz => ?_) (fun hz => ?_)
  · refine v_goto C 1969 (by decide) dL_law_1615 ?_
    exact V.sub [2, 3, 4, 5, 6, 7] rfl (kk _ _ _ ad1 am2 q1 _ _ _ hJ3 hx1 hx2 hI2 (Or.inl ⟨rfl, by omega, by omega⟩))
  · refine v_aload_n C 4 rfl rfl dL_law_1603 ?_
    refine v_iconst C 0 (by decide) dL_law_1604 ?_
    refine v_lald C v2.toInt64 hJ3.rao.1 (by rw [hJ3.rao.2.1]; unfold vp_in; decide) (hr3 hz) dL_law_1605 ?_
    refine v_iload C 0 rfl dL_law_1606 ?_
    refine v_i2l C dL_law_1608 ?_
    refine v_lcmp C dL_law_1609 ?_
    refine v_if_eq C 1615 (by decide) dL_law_1610 (fun c1610 => ?_) (fun q => ((q (lg_cmp_rf _) : False)).elim)
    refine v_goto C 1969 (by decide) dL_law_1615 ?_
    exact V.sub [2, 3, 4, 5, 6, 7] rfl (kk _ _ _ ad1 am2 q1 _ _ _ hJ3 hx1 hx2 hI2 (Or.inl ⟨rfl, by omega, by omega⟩))
set_option maxRecDepth 100000 in
set_option maxHeartbeats 4000000 in
theorem lw_quality {l : Launch} {pP : Program} {eE : Env} {sS : State} {mM : MethodId} {aA : Array Value} {bB : List Frame} {tT : Method} {cC : Code} {G : GT} {A : Nat → Prop} {Q : State → Prop} (hlf : l.stackTraces = false) (C : Cx pP l eE room_1 sS mM aA bB tT cC cL_law 9 RL G A) {b L : Nat} {xs : Nat → Int32} (hX : va_X b L xs sS sS.heap) (hbl : b < sS.heap.size) (hbA : ¬ A b) (iv : Int32) (hin : ∀ z : Int32, z = 1 ∨ z = 2 ∨ z = 3 ∨ z = 4 → vp_in (iv + z) L) (w S1 S2 : HS) (ad : AD) (am : AM) (q : AS) (ao dx : Nat) (hJ : LJ w S1 S2 ad am q q ao dx) (B k n : Nat) (hI : INV q B) (hB : B ≤ 257) (hk : k + 1000 ≤ 603072) (hn : n + 30000 ≤ 7207018) (kk : ∀ (w' S1' S2' : HS) (ad' : AD) (am' : AM) (q' : AS) (B' k' n' : Nat), LJ w' S1' S2' ad' am' q' q' ao dx → ad' 0 0 = ad 0 0 → am' 0 = am 0 → INV q' B' → LB q q' B B' k n k' n' → V pP l eE room_1 sS mM aA bB tT cC 9 G A w' k' n' Q 1969 [(5, .int iv), (4, .ref dx), (3, .ref ao), (2, .ref (am 0)), (1, .ref (ad 0 0)), (0, .ref b)] []) : V pP l eE room_1 sS mM aA bB tT cC 9 G A w k n Q 1618 [(5, .int iv), (4, .ref dx), (3, .ref ao), (2, .ref (am 0)), (1, .ref (ad 0 0)), (0, .ref b)] [] := by
  have h1 := hin 1 (by decide)
  obtain ⟨a1, e1⟩ : ∃ z, xs (iv + 1).toNatClampNeg = z := ⟨_, rfl⟩
  refine v_aload_n C 4 rfl rfl dL_law_1618 ?_
  refine v_aload_n C 5 rfl rfl dL_law_1619 ?_
  refine v_iload C 0 rfl dL_law_1620 ?_
  refine v_iconst C 1 (by decide) dL_law_1622 ?_
  refine v_iadd C dL_law_1623 ?_
  refine v_sld C hX hbl hbA h1 e1 dL_law_1624 ?_
  refine v_aload_n C 2 rfl rfl dL_law_1625 ?_
  refine v_callSHi C (st := []) [.ref (ad 0 0), .int a1, .ref ao] (c_L_quality l w S1 hJ.i1 (ad 0 0) ao a1 _ _ (c_X4_quality l hlf S1 ad q hI.1 hJ.hA hJ.hV a1) (fun E u hx => hx.1) hJ.kx hJ.rao.1 hJ.rao.2.1 hJ.rao.2.2.1) mlh_RL_213 rfl (Nat.le_of_ble_eq_true rfl) (Nat.le_of_ble_eq_true rfl) (Nat.le_of_ble_eq_true rfl) (by show _ + 1 ≤ 603072; omega) (by show _ + 6 ≤ 7207018; omega) dL_law_1626 (fun r w1 h => ?_) _ rfl
  obtain ⟨q1, v, u1, ad1, hR1, hA1, hV1, hx1, hc1, hw1⟩ := kc_quality hJ.hA hJ.hV a1 h
  have hJ1 : LJ (fr S1 u1 w) u1 S2 ad1 am q1 q ao dx := hJ.cls hA1 hV1 hc1
  have hJ2 : LJ w1 u1 S2 ad1 am q1 q ao dx := by
    rcases hw1 with ⟨-, rfl⟩ | ⟨-, rfl⟩
    · exact hJ1.rowJ
    · exact hJ1
  have hr1 : r = 0 → aJ w1 ao 0 = v.toInt64 := fun z => by
    rcases hw1 with ⟨-, rfl⟩ | ⟨h9, -⟩
    · exact (aJ_tJ1 0).trans (if_pos rfl)
    · exact absurd z h9
  refine v_istore C [(6, .int r), (5, .int iv), (4, .ref dx), (3, .ref ao), (2, .ref (am 0)), (1, .ref (ad 0 0)), (0, .ref b)] (by decide) rfl dL_law_1629 ?_
  refine v_aload_n C 4 rfl rfl dL_law_1631 ?_
  refine v_aload_n C 6 rfl rfl dL_law_1632 ?_
  refine v_iload C 1 rfl dL_law_1633 ?_
  refine v_iconst C 1 (by decide) dL_law_1635 ?_
  refine v_iadd C dL_law_1636 ?_
  refine v_sld C hX hbl hbA h1 e1 dL_law_1637 ?_
  refine v_callVi C (st := []) [.int a1] ((c_X5_quality l S2 am q hI.1 hJ2.nA hJ2.nV a1).frmI hJ2.i2) ml_RL_215 mi_yX5_quality hJ2.km (by decide) (by decide +kernel) rfl (Nat.le_of_ble_eq_true rfl) (Nat.le_of_ble_eq_true rfl) (Nat.le_of_ble_eq_true rfl) (by show _ + 0 ≤ 603072; omega) (by show _ + 0 ≤ 7207018; omega) dL_law_1638 (fun v2 w2 h => ?_) _ rfl
  obtain ⟨u2, hf2, hc2, rfl⟩ := h
  obtain ⟨q2, am2, hR2, hA2, hV2, hx2⟩ := km_quality hJ2.nA hJ2.nV a1 hf2
  obtain ⟨hκ, hq, hv⟩ := kf_quality hI.1 a1 hR1 hR2
  have hI2 := ki_quality hI a1 hR1
  subst hq
  have hJ3 : LJ (fr S2 u2 w1) u1 u2 ad1 am2 q1 q1 ao dx := hJ2.mod hA2 hV2 hc2
  have hr3 : r = 0 → aJ (fr S2 u2 w1) ao 0 = v2.toInt64 := fun z => by
    rw [hJ2.modJ hc2, hr1 z, hv z]
  refine v_istore C [(7, .int v2), (6, .int r), (5, .int iv), (4, .ref dx), (3, .ref ao), (2, .ref (am 0)), (1, .ref (ad 0 0)), (0, .ref b)] (by decide) rfl dL_law_1641 ?_
  refine v_aload_n C 5 rfl rfl dL_law_1643 ?_
  refine v_callVi C (st := []) [] ((thr_of l hA2 hx2).frmI hJ3.i2) ml_RL_120 mi_yX5_thrown (hx2 ▸ hJ3.km) (by decide) (by decide +kernel) rfl (Nat.le_of_ble_eq_true rfl) (Nat.le_of_ble_eq_true rfl) (Nat.le_of_ble_eq_true rfl) (by show _ + 0 ≤ 603072; omega) (by show _ + 0 ≤ 7207018; omega) dL_law_1644 (fun r3 w3 h => ?_) _ rfl
  obtain ⟨u3, ⟨hr4, rfl⟩, hc3, rfl⟩ := h
  rw [fr_self hJ3.i2]
  refine v_iload C 1 rfl dL_law_1647 ?_
  refine v_icmp_eq C 1654 (by decide) dL_law_1649 (fun c1649 => ?_) (fun q => ((q (hr4.symm.trans hκ.symm) : False)).elim)
  refine v_iload C 1 rfl dL_law_1654 ?_
  refine v_if_ne C 1671 (by decide) dL_law_1656 (fun hz => ?_) (fun hz => ?_)
  · refine v_goto C 1969 (by decide) dL_law_1671 ?_
    exact V.sub [2, 3, 4, 5, 6, 7] rfl (kk _ _ _ ad1 am2 q1 _ _ _ hJ3 hx1 hx2 hI2 (Or.inl ⟨rfl, by omega, by omega⟩))
  · refine v_aload_n C 4 rfl rfl dL_law_1659 ?_
    refine v_iconst C 0 (by decide) dL_law_1660 ?_
    refine v_lald C v2.toInt64 hJ3.rao.1 (by rw [hJ3.rao.2.1]; unfold vp_in; decide) (hr3 hz) dL_law_1661 ?_
    refine v_iload C 0 rfl dL_law_1662 ?_
    refine v_i2l C dL_law_1664 ?_
    refine v_lcmp C dL_law_1665 ?_
    refine v_if_eq C 1671 (by decide) dL_law_1666 (fun c1666 => ?_) (fun q => ((q (lg_cmp_rf _) : False)).elim)
    refine v_goto C 1969 (by decide) dL_law_1671 ?_
    exact V.sub [2, 3, 4, 5, 6, 7] rfl (kk _ _ _ ad1 am2 q1 _ _ _ hJ3 hx1 hx2 hI2 (Or.inl ⟨rfl, by omega, by omega⟩))
set_option maxRecDepth 100000 in
set_option maxHeartbeats 4000000 in
theorem lw_countOf {l : Launch} {pP : Program} {eE : Env} {sS : State} {mM : MethodId} {aA : Array Value} {bB : List Frame} {tT : Method} {cC : Code} {G : GT} {A : Nat → Prop} {Q : State → Prop} (hlf : l.stackTraces = false) (C : Cx pP l eE room_1 sS mM aA bB tT cC cL_law 9 RL G A) {b L : Nat} {xs : Nat → Int32} (hX : va_X b L xs sS sS.heap) (hbl : b < sS.heap.size) (hbA : ¬ A b) (iv : Int32) (hin : ∀ z : Int32, z = 1 ∨ z = 2 ∨ z = 3 ∨ z = 4 → vp_in (iv + z) L) (w S1 S2 : HS) (ad : AD) (am : AM) (q : AS) (ao dx : Nat) (hJ : LJ w S1 S2 ad am q q ao dx) (B k n : Nat) (hI : INV q B) (hB : B ≤ 257) (hk : k + 1000 ≤ 603072) (hn : n + 30000 ≤ 7207018) (kk : ∀ (w' S1' S2' : HS) (ad' : AD) (am' : AM) (q' : AS) (B' k' n' : Nat), LJ w' S1' S2' ad' am' q' q' ao dx → ad' 0 0 = ad 0 0 → am' 0 = am 0 → INV q' B' → LB q q' B B' k n k' n' → V pP l eE room_1 sS mM aA bB tT cC 9 G A w' k' n' Q 1969 [(5, .int iv), (4, .ref dx), (3, .ref ao), (2, .ref (am 0)), (1, .ref (ad 0 0)), (0, .ref b)] []) : V pP l eE room_1 sS mM aA bB tT cC 9 G A w k n Q 1674 [(5, .int iv), (4, .ref dx), (3, .ref ao), (2, .ref (am 0)), (1, .ref (ad 0 0)), (0, .ref b)] [] := by
  have h1 := hin 1 (by decide)
  obtain ⟨a1, e1⟩ : ∃ z, xs (iv + 1).toNatClampNeg = z := ⟨_, rfl⟩
  refine v_aload_n C 4 rfl rfl dL_law_1674 ?_
  refine v_aload_n C 5 rfl rfl dL_law_1675 ?_
  refine v_iload C 0 rfl dL_law_1676 ?_
  refine v_iconst C 1 (by decide) dL_law_1678 ?_
  refine v_iadd C dL_law_1679 ?_
  refine v_sld C hX hbl hbA h1 e1 dL_law_1680 ?_
  refine v_i2c C dL_law_1681 ?_
  refine v_aload_n C 2 rfl rfl dL_law_1682 ?_
  refine v_callSHi C (st := []) [.ref (ad 0 0), .int ((a1.toUInt32 % 65536).toInt32), .ref ao] (c_L_countOf l w S1 hJ.i1 (ad 0 0) ao ((a1.toUInt32 % 65536).toInt32) _ _ (c_X4_countOf l hlf S1 ad q hI.1 hJ.hA hJ.hV ((a1.toUInt32 % 65536).toInt32)) (fun E u hx => hx.1) hJ.kx hJ.rao.1 hJ.rao.2.1 hJ.rao.2.2.1) mlh_RL_216 rfl (Nat.le_of_ble_eq_true rfl) (Nat.le_of_ble_eq_true rfl) (Nat.le_of_ble_eq_true rfl) (by show _ + 1 ≤ 603072; omega) (by show _ + 6 ≤ 7207018; omega) dL_law_1683 (fun r w1 h => ?_) _ rfl
  obtain ⟨q1, v, u1, ad1, hR1, hA1, hV1, hx1, hc1, hw1⟩ := kc_countOf hJ.hA hJ.hV ((a1.toUInt32 % 65536).toInt32) h
  have hJ1 : LJ (fr S1 u1 w) u1 S2 ad1 am q1 q ao dx := hJ.cls hA1 hV1 hc1
  have hJ2 : LJ w1 u1 S2 ad1 am q1 q ao dx := by
    rcases hw1 with ⟨-, rfl⟩ | ⟨-, rfl⟩
    · exact hJ1.rowJ
    · exact hJ1
  have hr1 : r = 0 → aJ w1 ao 0 = v.toInt64 := fun z => by
    rcases hw1 with ⟨-, rfl⟩ | ⟨h9, -⟩
    · exact (aJ_tJ1 0).trans (if_pos rfl)
    · exact absurd z h9
  refine v_istore C [(6, .int r), (5, .int iv), (4, .ref dx), (3, .ref ao), (2, .ref (am 0)), (1, .ref (ad 0 0)), (0, .ref b)] (by decide) rfl dL_law_1686 ?_
  refine v_aload_n C 4 rfl rfl dL_law_1688 ?_
  refine v_aload_n C 6 rfl rfl dL_law_1689 ?_
  refine v_iload C 1 rfl dL_law_1690 ?_
  refine v_iconst C 1 (by decide) dL_law_1692 ?_
  refine v_iadd C dL_law_1693 ?_
  refine v_sld C hX hbl hbA h1 e1 dL_law_1694 ?_
  refine v_i2c C dL_law_1695 ?_
  refine v_callVi C (st := []) [.int ((a1.toUInt32 % 65536).toInt32)] ((c_X5_countOf l S2 am q hI.1 hJ2.nA hJ2.nV ((a1.toUInt32 % 65536).toInt32)).frmI hJ2.i2) ml_RL_219 mi_yX5_countOf hJ2.km (by decide) (by decide +kernel) rfl (Nat.le_of_ble_eq_true rfl) (Nat.le_of_ble_eq_true rfl) (Nat.le_of_ble_eq_true rfl) (by show _ + 0 ≤ 603072; omega) (by show _ + 0 ≤ 7207018; omega) dL_law_1696 (fun v2 w2 h => ?_) _ rfl
  obtain ⟨u2, hf2, hc2, rfl⟩ := h
  obtain ⟨q2, am2, hR2, hA2, hV2, hx2⟩ := km_countOf hJ2.nA hJ2.nV ((a1.toUInt32 % 65536).toInt32) hf2
  obtain ⟨hκ, hq, hv⟩ := kf_countOf hI.1 ((a1.toUInt32 % 65536).toInt32) hR1 hR2
  have hI2 := ki_countOf hI ((a1.toUInt32 % 65536).toInt32) hR1
  subst hq
  have hJ3 : LJ (fr S2 u2 w1) u1 u2 ad1 am2 q1 q1 ao dx := hJ2.mod hA2 hV2 hc2
  have hr3 : r = 0 → aJ (fr S2 u2 w1) ao 0 = v2.toInt64 := fun z => by
    rw [hJ2.modJ hc2, hr1 z, hv z]
  refine v_istore C [(7, .int v2), (6, .int r), (5, .int iv), (4, .ref dx), (3, .ref ao), (2, .ref (am 0)), (1, .ref (ad 0 0)), (0, .ref b)] (by decide) rfl dL_law_1699 ?_
  refine v_aload_n C 5 rfl rfl dL_law_1701 ?_
  refine v_callVi C (st := []) [] ((thr_of l hA2 hx2).frmI hJ3.i2) ml_RL_120 mi_yX5_thrown (hx2 ▸ hJ3.km) (by decide) (by decide +kernel) rfl (Nat.le_of_ble_eq_true rfl) (Nat.le_of_ble_eq_true rfl) (Nat.le_of_ble_eq_true rfl) (by show _ + 0 ≤ 603072; omega) (by show _ + 0 ≤ 7207018; omega) dL_law_1702 (fun r3 w3 h => ?_) _ rfl
  obtain ⟨u3, ⟨hr4, rfl⟩, hc3, rfl⟩ := h
  rw [fr_self hJ3.i2]
  refine v_iload C 1 rfl dL_law_1705 ?_
  refine v_icmp_eq C 1712 (by decide) dL_law_1707 (fun c1707 => ?_) (fun q => ((q (hr4.symm.trans hκ.symm) : False)).elim)
  refine v_iload C 1 rfl dL_law_1712 ?_
  refine v_if_ne C 1729 (by decide) dL_law_1714 (fun hz => ?_) (fun hz => ?_)
  · refine v_goto C 1969 (by decide) dL_law_1729 ?_
    exact V.sub [2, 3, 4, 5, 6, 7] rfl (kk _ _ _ ad1 am2 q1 _ _ _ hJ3 hx1 hx2 hI2 (Or.inl ⟨rfl, by omega, by omega⟩))
  · refine v_aload_n C 4 rfl rfl dL_law_1717 ?_
    refine v_iconst C 0 (by decide) dL_law_1718 ?_
    refine v_lald C v2.toInt64 hJ3.rao.1 (by rw [hJ3.rao.2.1]; unfold vp_in; decide) (hr3 hz) dL_law_1719 ?_
    refine v_iload C 0 rfl dL_law_1720 ?_
    refine v_i2l C dL_law_1722 ?_
    refine v_lcmp C dL_law_1723 ?_
    refine v_if_eq C 1729 (by decide) dL_law_1724 (fun c1724 => ?_) (fun q => ((q (lg_cmp_rf _) : False)).elim)
    refine v_goto C 1969 (by decide) dL_law_1729 ?_
    exact V.sub [2, 3, 4, 5, 6, 7] rfl (kk _ _ _ ad1 am2 q1 _ _ _ hJ3 hx1 hx2 hI2 (Or.inl ⟨rfl, by omega, by omega⟩))
set_option maxRecDepth 100000 in
set_option maxHeartbeats 4000000 in
theorem lw_nearest {l : Launch} {pP : Program} {eE : Env} {sS : State} {mM : MethodId} {aA : Array Value} {bB : List Frame} {tT : Method} {cC : Code} {G : GT} {A : Nat → Prop} {Q : State → Prop} (hlf : l.stackTraces = false) (C : Cx pP l eE room_1 sS mM aA bB tT cC cL_law 9 RL G A) {b L : Nat} {xs : Nat → Int32} (hX : va_X b L xs sS sS.heap) (hbl : b < sS.heap.size) (hbA : ¬ A b) (iv : Int32) (hin : ∀ z : Int32, z = 1 ∨ z = 2 ∨ z = 3 ∨ z = 4 → vp_in (iv + z) L) (w S1 S2 : HS) (ad : AD) (am : AM) (q : AS) (ao dx : Nat) (hJ : LJ w S1 S2 ad am q q ao dx) (B k n : Nat) (hI : INV q B) (hB : B ≤ 257) (hk : k + 1000 ≤ 603072) (hn : n + 30000 ≤ 7207018) (kk : ∀ (w' S1' S2' : HS) (ad' : AD) (am' : AM) (q' : AS) (B' k' n' : Nat), LJ w' S1' S2' ad' am' q' q' ao dx → ad' 0 0 = ad 0 0 → am' 0 = am 0 → INV q' B' → LB q q' B B' k n k' n' → V pP l eE room_1 sS mM aA bB tT cC 9 G A w' k' n' Q 1969 [(5, .int iv), (4, .ref dx), (3, .ref ao), (2, .ref (am 0)), (1, .ref (ad 0 0)), (0, .ref b)] []) : V pP l eE room_1 sS mM aA bB tT cC 9 G A w k n Q 1732 [(5, .int iv), (4, .ref dx), (3, .ref ao), (2, .ref (am 0)), (1, .ref (ad 0 0)), (0, .ref b)] [] := by
  have h1 := hin 1 (by decide)
  obtain ⟨a1, e1⟩ : ∃ z, xs (iv + 1).toNatClampNeg = z := ⟨_, rfl⟩
  have h2 := hin 2 (by decide)
  obtain ⟨a2, e2⟩ : ∃ z, xs (iv + 2).toNatClampNeg = z := ⟨_, rfl⟩
  have h3 := hin 3 (by decide)
  obtain ⟨a3, e3⟩ : ∃ z, xs (iv + 3).toNatClampNeg = z := ⟨_, rfl⟩
  refine v_aload_n C 4 rfl rfl dL_law_1732 ?_
  refine v_aload_n C 5 rfl rfl dL_law_1733 ?_
  refine v_iload C 0 rfl dL_law_1734 ?_
  refine v_iconst C 1 (by decide) dL_law_1736 ?_
  refine v_iadd C dL_law_1737 ?_
  refine v_sld C hX hbl hbA h1 e1 dL_law_1738 ?_
  refine v_aload_n C 5 rfl rfl dL_law_1739 ?_
  refine v_iload C 0 rfl dL_law_1740 ?_
  refine v_iconst C 2 (by decide) dL_law_1742 ?_
  refine v_iadd C dL_law_1743 ?_
  refine v_sld C hX hbl hbA h2 e2 dL_law_1744 ?_
  refine v_aload_n C 5 rfl rfl dL_law_1745 ?_
  refine v_iload C 0 rfl dL_law_1746 ?_
  refine v_iconst C 3 (by decide) dL_law_1748 ?_
  refine v_iadd C dL_law_1749 ?_
  refine v_sld C hX hbl hbA h3 e3 dL_law_1750 ?_
  refine v_aload_n C 2 rfl rfl dL_law_1751 ?_
  refine v_callSHi C (st := []) [.ref (ad 0 0), .int a1, .int a2, .int a3, .ref ao] (c_L_nearest l w S1 hJ.i1 (ad 0 0) ao a1 a2 a3 _ _ (c_X4_nearest l hlf S1 ad q hI.1 hJ.hA hJ.hV a1 a2 a3) (fun E u hx => hx.2.imp And.left And.left) hJ.kx hJ.rao.1 hJ.rao.2.1 hJ.rao.2.2.1) mlh_RL_220 rfl (Nat.le_of_ble_eq_true rfl) (Nat.le_of_ble_eq_true rfl) (Nat.le_of_ble_eq_true rfl) (by show _ + 2 ≤ 603072; omega) (by show _ + 12 ≤ 7207018; omega) dL_law_1752 (fun r w1 h => ?_) _ rfl
  obtain ⟨q1, v, u1, ad1, hR1, hA1, hV1, hx1, hc1, hw1⟩ := kc_nearest hJ.hA hJ.hV a1 a2 a3 h
  have hJ1 : LJ (fr S1 u1 w) u1 S2 ad1 am q1 q ao dx := hJ.cls hA1 hV1 hc1
  have hJ2 : LJ w1 u1 S2 ad1 am q1 q ao dx := by
    rcases hw1 with ⟨-, rfl⟩ | ⟨-, rfl⟩
    · exact hJ1.rowJ
    · exact hJ1
  have hr1 : r = 0 → aJ w1 ao 0 = v.toInt64 := fun z => by
    rcases hw1 with ⟨-, rfl⟩ | ⟨h9, -⟩
    · exact (aJ_tJ1 0).trans (if_pos rfl)
    · exact absurd z h9
  refine v_istore C [(6, .int r), (5, .int iv), (4, .ref dx), (3, .ref ao), (2, .ref (am 0)), (1, .ref (ad 0 0)), (0, .ref b)] (by decide) rfl dL_law_1755 ?_
  refine v_aload_n C 4 rfl rfl dL_law_1757 ?_
  refine v_aload_n C 6 rfl rfl dL_law_1758 ?_
  refine v_iload C 1 rfl dL_law_1759 ?_
  refine v_iconst C 1 (by decide) dL_law_1761 ?_
  refine v_iadd C dL_law_1762 ?_
  refine v_sld C hX hbl hbA h1 e1 dL_law_1763 ?_
  refine v_aload_n C 6 rfl rfl dL_law_1764 ?_
  refine v_iload C 1 rfl dL_law_1765 ?_
  refine v_iconst C 2 (by decide) dL_law_1767 ?_
  refine v_iadd C dL_law_1768 ?_
  refine v_sld C hX hbl hbA h2 e2 dL_law_1769 ?_
  refine v_aload_n C 6 rfl rfl dL_law_1770 ?_
  refine v_iload C 1 rfl dL_law_1771 ?_
  refine v_iconst C 3 (by decide) dL_law_1773 ?_
  refine v_iadd C dL_law_1774 ?_
  refine v_sld C hX hbl hbA h3 e3 dL_law_1775 ?_
  refine v_callVi C (st := []) [.int a1, .int a2, .int a3] ((c_X5_nearest l S2 am q hI.1 hJ2.nA hJ2.nV a1 a2 a3).frmI hJ2.i2) ml_RL_222 mi_yX5_nearest hJ2.km (by decide) (by decide +kernel) rfl (Nat.le_of_ble_eq_true rfl) (Nat.le_of_ble_eq_true rfl) (Nat.le_of_ble_eq_true rfl) (by show _ + 0 ≤ 603072; omega) (by show _ + 0 ≤ 7207018; omega) dL_law_1776 (fun v2 w2 h => ?_) _ rfl
  obtain ⟨u2, hf2, hc2, rfl⟩ := h
  obtain ⟨q2, am2, hR2, hA2, hV2, hx2⟩ := km_nearest hJ2.nA hJ2.nV a1 a2 a3 hf2
  obtain ⟨hκ, hq, hv⟩ := kf_nearest hI.1 a1 a2 a3 hR1 hR2
  have hI2 := ki_nearest hI a1 a2 a3 hR1
  subst hq
  have hJ3 : LJ (fr S2 u2 w1) u1 u2 ad1 am2 q1 q1 ao dx := hJ2.mod hA2 hV2 hc2
  have hr3 : r = 0 → aJ (fr S2 u2 w1) ao 0 = v2.toInt64 := fun z => by
    rw [hJ2.modJ hc2, hr1 z, hv z]
  refine v_istore C [(7, .int v2), (6, .int r), (5, .int iv), (4, .ref dx), (3, .ref ao), (2, .ref (am 0)), (1, .ref (ad 0 0)), (0, .ref b)] (by decide) rfl dL_law_1779 ?_
  refine v_aload_n C 5 rfl rfl dL_law_1781 ?_
  refine v_callVi C (st := []) [] ((thr_of l hA2 hx2).frmI hJ3.i2) ml_RL_120 mi_yX5_thrown (hx2 ▸ hJ3.km) (by decide) (by decide +kernel) rfl (Nat.le_of_ble_eq_true rfl) (Nat.le_of_ble_eq_true rfl) (Nat.le_of_ble_eq_true rfl) (by show _ + 0 ≤ 603072; omega) (by show _ + 0 ≤ 7207018; omega) dL_law_1782 (fun r3 w3 h => ?_) _ rfl
  obtain ⟨u3, ⟨hr4, rfl⟩, hc3, rfl⟩ := h
  rw [fr_self hJ3.i2]
  refine v_iload C 1 rfl dL_law_1785 ?_
  refine v_icmp_eq C 1792 (by decide) dL_law_1787 (fun c1787 => ?_) (fun q => ((q (hr4.symm.trans hκ.symm) : False)).elim)
  refine v_iload C 1 rfl dL_law_1792 ?_
  refine v_if_ne C 1809 (by decide) dL_law_1794 (fun hz => ?_) (fun hz => ?_)
  · refine v_goto C 1969 (by decide) dL_law_1809 ?_
    exact V.sub [2, 3, 4, 5, 6, 7] rfl (kk _ _ _ ad1 am2 q1 _ _ _ hJ3 hx1 hx2 hI2 (Or.inl ⟨rfl, by omega, by omega⟩))
  · refine v_aload_n C 4 rfl rfl dL_law_1797 ?_
    refine v_iconst C 0 (by decide) dL_law_1798 ?_
    refine v_lald C v2.toInt64 hJ3.rao.1 (by rw [hJ3.rao.2.1]; unfold vp_in; decide) (hr3 hz) dL_law_1799 ?_
    refine v_iload C 0 rfl dL_law_1800 ?_
    refine v_i2l C dL_law_1802 ?_
    refine v_lcmp C dL_law_1803 ?_
    refine v_if_eq C 1809 (by decide) dL_law_1804 (fun c1804 => ?_) (fun q => ((q (lg_cmp_rf _) : False)).elim)
    refine v_goto C 1969 (by decide) dL_law_1809 ?_
    exact V.sub [2, 3, 4, 5, 6, 7] rfl (kk _ _ _ ad1 am2 q1 _ _ _ hJ3 hx1 hx2 hI2 (Or.inl ⟨rfl, by omega, by omega⟩))
set_option maxRecDepth 100000 in
set_option maxHeartbeats 4000000 in
theorem lw_dropped {l : Launch} {pP : Program} {eE : Env} {sS : State} {mM : MethodId} {aA : Array Value} {bB : List Frame} {tT : Method} {cC : Code} {G : GT} {A : Nat → Prop} {Q : State → Prop} (hlf : l.stackTraces = false) (C : Cx pP l eE room_1 sS mM aA bB tT cC cL_law 9 RL G A) {b L : Nat} {xs : Nat → Int32} (hX : va_X b L xs sS sS.heap) (hbl : b < sS.heap.size) (hbA : ¬ A b) (iv : Int32) (hin : ∀ z : Int32, z = 1 ∨ z = 2 ∨ z = 3 ∨ z = 4 → vp_in (iv + z) L) (w S1 S2 : HS) (ad : AD) (am : AM) (q : AS) (ao dx : Nat) (hJ : LJ w S1 S2 ad am q q ao dx) (B k n : Nat) (hI : INV q B) (hB : B ≤ 257) (hk : k + 1000 ≤ 603072) (hn : n + 30000 ≤ 7207018) (kk : ∀ (w' S1' S2' : HS) (ad' : AD) (am' : AM) (q' : AS) (B' k' n' : Nat), LJ w' S1' S2' ad' am' q' q' ao dx → ad' 0 0 = ad 0 0 → am' 0 = am 0 → INV q' B' → LB q q' B B' k n k' n' → V pP l eE room_1 sS mM aA bB tT cC 9 G A w' k' n' Q 1969 [(5, .int iv), (4, .ref dx), (3, .ref ao), (2, .ref (am 0)), (1, .ref (ad 0 0)), (0, .ref b)] []) : V pP l eE room_1 sS mM aA bB tT cC 9 G A w k n Q 1812 [(5, .int iv), (4, .ref dx), (3, .ref ao), (2, .ref (am 0)), (1, .ref (ad 0 0)), (0, .ref b)] [] := by
  refine v_aload_n C 4 rfl rfl dL_law_1812 ?_
  refine v_callVi C (st := []) [] ((c_X4_dropped l S1 ad q hI.1 hJ.hA hJ.hV).frmI hJ.i1) ml_RL_223 mi_yX4_dropped hJ.kx (by decide) (by decide +kernel) rfl (Nat.le_of_ble_eq_true rfl) (Nat.le_of_ble_eq_true rfl) (Nat.le_of_ble_eq_true rfl) (by show _ + 0 ≤ 603072; omega) (by show _ + 0 ≤ 7207018; omega) dL_law_1813 (fun r w1 h => ?_) _ rfl
  obtain ⟨u1, ⟨hval, rfl⟩, hc1, rfl⟩ := h
  rw [fr_self hJ.i1]
  have hJ2 : LJ w S1 S2 ad am q q ao dx := hJ
  refine v_aload_n C 3 rfl rfl dL_law_1816 ?_
  refine v_callVi C (st := [.int r]) [] ((c_X5_dropped l S2 am q hJ2.nA hJ2.nV).frmI hJ2.i2) ml_RL_226 mi_yX5_dropped hJ2.km (by decide) (by decide +kernel) rfl (Nat.le_of_ble_eq_true rfl) (Nat.le_of_ble_eq_true rfl) (Nat.le_of_ble_eq_true rfl) (by show _ + 0 ≤ 603072; omega) (by show _ + 0 ≤ 7207018; omega) dL_law_1817 (fun v2 w2 h => ?_) _ rfl
  obtain ⟨u2, ⟨hF2, h61, hval2⟩, hc2, rfl⟩ := h
  have hJ3 : LJ (fr S2 u2 w) S1 u2 ad am q q ao dx := hJ2.mod (hF2.toA hJ2.nA) (hF2.toV hJ2.nA hJ2.nV) hc2
  have hI2 : INV q B := hI
  refine v_icmp_eq C 1969 (by decide) dL_law_1820 (fun c1820 => ?_) (fun q => ((q (hval.symm.trans hval2) : False)).elim)
  exact V.sub [0, 1, 2, 3, 4, 5] rfl (kk _ _ _ ad am q _ _ _ hJ3 rfl rfl hI2 (Or.inl ⟨rfl, by omega, by omega⟩))
set_option maxRecDepth 100000 in
set_option maxHeartbeats 4000000 in
theorem lw_isBalanced {l : Launch} {pP : Program} {eE : Env} {sS : State} {mM : MethodId} {aA : Array Value} {bB : List Frame} {tT : Method} {cC : Code} {G : GT} {A : Nat → Prop} {Q : State → Prop} (hlf : l.stackTraces = false) (C : Cx pP l eE room_1 sS mM aA bB tT cC cL_law 9 RL G A) {b L : Nat} {xs : Nat → Int32} (hX : va_X b L xs sS sS.heap) (hbl : b < sS.heap.size) (hbA : ¬ A b) (iv : Int32) (hin : ∀ z : Int32, z = 1 ∨ z = 2 ∨ z = 3 ∨ z = 4 → vp_in (iv + z) L) (w S1 S2 : HS) (ad : AD) (am : AM) (q : AS) (ao dx : Nat) (hJ : LJ w S1 S2 ad am q q ao dx) (B k n : Nat) (hI : INV q B) (hB : B ≤ 257) (hk : k + 1000 ≤ 603072) (hn : n + 30000 ≤ 7207018) (kk : ∀ (w' S1' S2' : HS) (ad' : AD) (am' : AM) (q' : AS) (B' k' n' : Nat), LJ w' S1' S2' ad' am' q' q' ao dx → ad' 0 0 = ad 0 0 → am' 0 = am 0 → INV q' B' → LB q q' B B' k n k' n' → V pP l eE room_1 sS mM aA bB tT cC 9 G A w' k' n' Q 1969 [(5, .int iv), (4, .ref dx), (3, .ref ao), (2, .ref (am 0)), (1, .ref (ad 0 0)), (0, .ref b)] []) : V pP l eE room_1 sS mM aA bB tT cC 9 G A w k n Q 1825 [(5, .int iv), (4, .ref dx), (3, .ref ao), (2, .ref (am 0)), (1, .ref (ad 0 0)), (0, .ref b)] [] := by
  have hbal : bI (nI (cn q 2) = nI (sgc q 110 (cn q 1)) + nI (sgc q 104 (cn q 1)) + nI (cn q 3)) = 1 := by
    unfold bI
    exact if_pos (by rw [nI_s, nI_s, hI.2.2.2.2]; rfl)
  refine v_aload_n C 4 rfl rfl dL_law_1825 ?_
  refine v_callVi C (st := []) [] ((c_X4_isBalanced l S1 ad q hI.1 hJ.hA hJ.hV).frmI hJ.i1) ml_RL_227 mi_yX4_isBalanced hJ.kx (by decide) (by decide +kernel) rfl (Nat.le_of_ble_eq_true rfl) (Nat.le_of_ble_eq_true rfl) (Nat.le_of_ble_eq_true rfl) (by show _ + 0 ≤ 603072; omega) (by show _ + 0 ≤ 7207018; omega) dL_law_1826 (fun r w1 h => ?_) _ rfl
  obtain ⟨u1, ⟨hval, rfl⟩, hc1, rfl⟩ := h
  rw [fr_self hJ.i1]
  have hJ2 : LJ w S1 S2 ad am q q ao dx := hJ
  refine v_aload_n C 3 rfl rfl dL_law_1829 ?_
  refine v_callVi C (st := [.int r]) [] ((c_X5_isBalanced l S2 am q hJ2.nA hJ2.nV).frmI hJ2.i2) ml_RL_231 mi_yX5_isBalanced hJ2.km (by decide) (by decide +kernel) rfl (Nat.le_of_ble_eq_true rfl) (Nat.le_of_ble_eq_true rfl) (Nat.le_of_ble_eq_true rfl) (by show _ + 0 ≤ 603072; omega) (by show _ + 0 ≤ 7207018; omega) dL_law_1830 (fun v2 w2 h => ?_) _ rfl
  obtain ⟨u2, ⟨hF2, h61, hval2⟩, hc2, rfl⟩ := h
  have hJ3 : LJ (fr S2 u2 w) S1 u2 ad am q q ao dx := hJ2.mod (hF2.toA hJ2.nA) (hF2.toV hJ2.nA hJ2.nV) hc2
  have hI2 : INV q B := hI
  refine v_icmp_eq C 1969 (by decide) dL_law_1833 (fun c1833 => ?_) (fun q => ((q (hval.symm.trans (hbal.trans hval2)) : False)).elim)
  exact V.sub [0, 1, 2, 3, 4, 5] rfl (kk _ _ _ ad am q _ _ _ hJ3 rfl rfl hI2 (Or.inl ⟨rfl, by omega, by omega⟩))
set_option maxRecDepth 100000 in
set_option maxHeartbeats 4000000 in
theorem lw_takenShare {l : Launch} {pP : Program} {eE : Env} {sS : State} {mM : MethodId} {aA : Array Value} {bB : List Frame} {tT : Method} {cC : Code} {G : GT} {A : Nat → Prop} {Q : State → Prop} (hlf : l.stackTraces = false) (C : Cx pP l eE room_1 sS mM aA bB tT cC cL_law 9 RL G A) {b L : Nat} {xs : Nat → Int32} (hX : va_X b L xs sS sS.heap) (hbl : b < sS.heap.size) (hbA : ¬ A b) (iv : Int32) (hin : ∀ z : Int32, z = 1 ∨ z = 2 ∨ z = 3 ∨ z = 4 → vp_in (iv + z) L) (w S1 S2 : HS) (ad : AD) (am : AM) (q : AS) (ao dx : Nat) (hJ : LJ w S1 S2 ad am q q ao dx) (B k n : Nat) (hI : INV q B) (hB : B ≤ 257) (hk : k + 1000 ≤ 603072) (hn : n + 30000 ≤ 7207018) (kk : ∀ (w' S1' S2' : HS) (ad' : AD) (am' : AM) (q' : AS) (B' k' n' : Nat), LJ w' S1' S2' ad' am' q' q' ao dx → ad' 0 0 = ad 0 0 → am' 0 = am 0 → INV q' B' → LB q q' B B' k n k' n' → V pP l eE room_1 sS mM aA bB tT cC 9 G A w' k' n' Q 1969 [(5, .int iv), (4, .ref dx), (3, .ref ao), (2, .ref (am 0)), (1, .ref (ad 0 0)), (0, .ref b)] []) : V pP l eE room_1 sS mM aA bB tT cC 9 G A w k n Q 1838 [(5, .int iv), (4, .ref dx), (3, .ref ao), (2, .ref (am 0)), (1, .ref (ad 0 0)), (0, .ref b)] [] := by
  refine v_aload_n C 4 rfl rfl dL_law_1838 ?_
  refine v_aload C 1 rfl dL_law_1839 ?_
  refine v_callSHi C (st := []) [.ref (ad 0 0), .ref dx] (c_L_takenShare l w S1 hJ.i1 (ad 0 0) dx _ _ (c_X4_takenShare l hlf S1 ad q hI.1 hJ.hA hJ.hV) (fun E u hx => hx.1) (fun x u hf => nn_vf (f2d_cv (hf.2.2 ▸ nn_fq hf.1))) hJ.kx hJ.rdx.1 hJ.rdx.2.1 hJ.rdx.2.2.1) mlh_RL_232 rfl (Nat.le_of_ble_eq_true rfl) (Nat.le_of_ble_eq_true rfl) (Nat.le_of_ble_eq_true rfl) (by show _ + 1 ≤ 603072; omega) (by show _ + 6 ≤ 7207018; omega) dL_law_1841 (fun r w1 h => ?_) _ rfl
  obtain ⟨q1, v, u1, ad1, hR1, hA1, hV1, hx1, hc1, hw1⟩ := kc_takenShare hJ.hA hJ.hV h
  have hJ1 : LJ (fr S1 u1 w) u1 S2 ad1 am q1 q ao dx := hJ.cls hA1 hV1 hc1
  have hJ2 : LJ w1 u1 S2 ad1 am q1 q ao dx := by
    rcases hw1 with ⟨-, rfl⟩ | ⟨-, rfl⟩
    · exact hJ1.rowD
    · exact hJ1
  have hr1 : r = 0 → aD w1 dx 0 = (FP.f2d v) := fun z => by
    rcases hw1 with ⟨-, rfl⟩ | ⟨h9, -⟩
    · exact (aD_tD1 0).trans (if_pos rfl)
    · exact absurd z h9
  refine v_istore C [(6, .int r), (5, .int iv), (4, .ref dx), (3, .ref ao), (2, .ref (am 0)), (1, .ref (ad 0 0)), (0, .ref b)] (by decide) rfl dL_law_1844 ?_
  refine v_aload_n C 4 rfl rfl dL_law_1846 ?_
  refine v_callVf C (st := []) [] ((c_X5_takenShare l S2 am q hI.1 hJ2.nA hJ2.nV).frmF hJ2.i2) ml_RL_235 mi_yX5_takenShare hJ2.km (by decide) (by decide +kernel) rfl (Nat.le_of_ble_eq_true rfl) (Nat.le_of_ble_eq_true rfl) (Nat.le_of_ble_eq_true rfl) (by show _ + 0 ≤ 603072; omega) (by show _ + 0 ≤ 7207018; omega) dL_law_1847 (fun v2 w2 h => ?_) _ rfl
  obtain ⟨u2, hf2, hc2, rfl⟩ := h
  obtain ⟨q2, am2, hR2, hA2, hV2, hx2⟩ := km_takenShare hJ2.nA hJ2.nV hf2
  obtain ⟨hκ, hq, hv⟩ := kf_takenShare hI.1 hR1 hR2
  have hI2 := ki_takenShare hI hR1
  subst hq
  have hJ3 : LJ (fr S2 u2 w1) u1 u2 ad1 am2 q1 q1 ao dx := hJ2.mod hA2 hV2 hc2
  have hr3 : r = 0 → aD (fr S2 u2 w1) dx 0 = (FP.f2d v2) := fun z => by
    rw [hJ2.modD hc2, hr1 z, hv z]
  refine v_fstore C [(7, .float v2), (6, .int r), (5, .int iv), (4, .ref dx), (3, .ref ao), (2, .ref (am 0)), (1, .ref (ad 0 0)), (0, .ref b)] (by decide) rfl dL_law_1850 ?_
  refine v_aload_n C 5 rfl rfl dL_law_1852 ?_
  refine v_callVi C (st := []) [] ((thr_of l hA2 hx2).frmI hJ3.i2) ml_RL_120 mi_yX5_thrown (hx2 ▸ hJ3.km) (by decide) (by decide +kernel) rfl (Nat.le_of_ble_eq_true rfl) (Nat.le_of_ble_eq_true rfl) (Nat.le_of_ble_eq_true rfl) (by show _ + 0 ≤ 603072; omega) (by show _ + 0 ≤ 7207018; omega) dL_law_1853 (fun r3 w3 h => ?_) _ rfl
  obtain ⟨u3, ⟨hr4, rfl⟩, hc3, rfl⟩ := h
  rw [fr_self hJ3.i2]
  refine v_iload C 1 rfl dL_law_1856 ?_
  refine v_icmp_eq C 1863 (by decide) dL_law_1858 (fun c1858 => ?_) (fun q => ((q (hr4.symm.trans hκ.symm) : False)).elim)
  refine v_iload C 1 rfl dL_law_1863 ?_
  refine v_if_ne C 1901 (by decide) dL_law_1865 (fun hz => ?_) (fun hz => ?_)
  · refine v_goto C 1969 (by decide) dL_law_1901 ?_
    exact V.sub [2, 3, 4, 5, 6, 7] rfl (kk _ _ _ ad1 am2 q1 _ _ _ hJ3 hx1 hx2 hI2 (Or.inl ⟨rfl, by omega, by omega⟩))
  · refine v_aload C 3 rfl dL_law_1868 ?_
    refine v_iconst C 0 (by decide) dL_law_1870 ?_
    refine v_dald C (FP.f2d v2) hJ3.rdx.1 (by rw [hJ3.rdx.2.1]; unfold vp_in; decide) (hr3 hz) dL_law_1871 ?_
    refine v_fload C 0 rfl dL_law_1872 ?_
    have hnn : FP.Core.fIsNaN v2 = false := by
      rcases hR2 with ⟨-, g0, -, g1⟩ | ⟨g0, -⟩
      · rw [← g1]; exact nn_fq g0
      · exact absurd (hz.symm.trans (hκ.trans g0)) (by decide)
    refine v_f2d C (nn_vf (f2d_cv hnn)) dL_law_1874 ?_
    refine v_dcmp C dL_law_1875 ?_
    rw [val_nn (f2d_cv hnn)]
    refine v_if_eq C 1901 (by decide) dL_law_1876 (fun _ => ?_) (fun q => absurd (by decide) q)
    refine v_goto C 1969 (by decide) dL_law_1901 ?_
    exact V.sub [2, 3, 4, 5, 6, 7] rfl (kk _ _ _ ad1 am2 q1 _ _ _ hJ3 hx1 hx2 hI2 (Or.inl ⟨rfl, by omega, by omega⟩))
set_option maxRecDepth 100000 in
set_option maxHeartbeats 4000000 in
theorem lw_meanHits {l : Launch} {pP : Program} {eE : Env} {sS : State} {mM : MethodId} {aA : Array Value} {bB : List Frame} {tT : Method} {cC : Code} {G : GT} {A : Nat → Prop} {Q : State → Prop} (hlf : l.stackTraces = false) (C : Cx pP l eE room_1 sS mM aA bB tT cC cL_law 9 RL G A) {b L : Nat} {xs : Nat → Int32} (hX : va_X b L xs sS sS.heap) (hbl : b < sS.heap.size) (hbA : ¬ A b) (iv : Int32) (hin : ∀ z : Int32, z = 1 ∨ z = 2 ∨ z = 3 ∨ z = 4 → vp_in (iv + z) L) (w S1 S2 : HS) (ad : AD) (am : AM) (q : AS) (ao dx : Nat) (hJ : LJ w S1 S2 ad am q q ao dx) (B k n : Nat) (hI : INV q B) (hB : B ≤ 257) (hk : k + 1000 ≤ 603072) (hn : n + 30000 ≤ 7207018) (kk : ∀ (w' S1' S2' : HS) (ad' : AD) (am' : AM) (q' : AS) (B' k' n' : Nat), LJ w' S1' S2' ad' am' q' q' ao dx → ad' 0 0 = ad 0 0 → am' 0 = am 0 → INV q' B' → LB q q' B B' k n k' n' → V pP l eE room_1 sS mM aA bB tT cC 9 G A w' k' n' Q 1969 [(5, .int iv), (4, .ref dx), (3, .ref ao), (2, .ref (am 0)), (1, .ref (ad 0 0)), (0, .ref b)] []) : V pP l eE room_1 sS mM aA bB tT cC 9 G A w k n Q 1904 [(5, .int iv), (4, .ref dx), (3, .ref ao), (2, .ref (am 0)), (1, .ref (ad 0 0)), (0, .ref b)] [] := by
  refine v_aload_n C 4 rfl rfl dL_law_1904 ?_
  refine v_aload C 1 rfl dL_law_1905 ?_
  refine v_callSHi C (st := []) [.ref (ad 0 0), .ref dx] (c_L_meanHits l w S1 hJ.i1 (ad 0 0) dx _ _ (c_X4_meanHits l hlf S1 ad q hI.1 hJ.hA hJ.hV) (fun E u hx => hx.1) hJ.kx hJ.rdx.1 hJ.rdx.2.1 hJ.rdx.2.2.1) mlh_RL_236 rfl (Nat.le_of_ble_eq_true rfl) (Nat.le_of_ble_eq_true rfl) (Nat.le_of_ble_eq_true rfl) (by show _ + 1 ≤ 603072; omega) (by show _ + 6 ≤ 7207018; omega) dL_law_1907 (fun r w1 h => ?_) _ rfl
  obtain ⟨q1, v, u1, ad1, hR1, hA1, hV1, hx1, hc1, hw1⟩ := kc_meanHits hJ.hA hJ.hV h
  have hJ1 : LJ (fr S1 u1 w) u1 S2 ad1 am q1 q ao dx := hJ.cls hA1 hV1 hc1
  have hJ2 : LJ w1 u1 S2 ad1 am q1 q ao dx := by
    rcases hw1 with ⟨-, rfl⟩ | ⟨-, rfl⟩
    · exact hJ1.rowD
    · exact hJ1
  have hr1 : r = 0 → aD w1 dx 0 = v := fun z => by
    rcases hw1 with ⟨-, rfl⟩ | ⟨h9, -⟩
    · exact (aD_tD1 0).trans (if_pos rfl)
    · exact absurd z h9
  refine v_istore C [(6, .int r), (5, .int iv), (4, .ref dx), (3, .ref ao), (2, .ref (am 0)), (1, .ref (ad 0 0)), (0, .ref b)] (by decide) rfl dL_law_1910 ?_
  refine v_aload_n C 4 rfl rfl dL_law_1912 ?_
  refine v_callVd C (st := []) [] ((c_X5_meanHits l S2 am q hI.1 hJ2.nA hJ2.nV).frmD hJ2.i2) ml_RL_238 mi_yX5_meanHits hJ2.km (by decide) (by decide +kernel) rfl (Nat.le_of_ble_eq_true rfl) (Nat.le_of_ble_eq_true rfl) (Nat.le_of_ble_eq_true rfl) (by show _ + 0 ≤ 603072; omega) (by show _ + 0 ≤ 7207018; omega) dL_law_1913 (fun v2 w2 h => ?_) _ rfl
  obtain ⟨u2, hf2, hc2, rfl⟩ := h
  obtain ⟨q2, am2, hR2, hA2, hV2, hx2⟩ := km_meanHits hJ2.nA hJ2.nV hf2
  obtain ⟨hκ, hq, hv⟩ := kf_meanHits hI.1 hR1 hR2
  have hI2 := ki_meanHits hI hR1
  subst hq
  have hJ3 : LJ (fr S2 u2 w1) u1 u2 ad1 am2 q1 q1 ao dx := hJ2.mod hA2 hV2 hc2
  have hr3 : r = 0 → aD (fr S2 u2 w1) dx 0 = v2 := fun z => by
    rw [hJ2.modD hc2, hr1 z, hv z]
  refine v_dstore C [(7, .double v2), (6, .int r), (5, .int iv), (4, .ref dx), (3, .ref ao), (2, .ref (am 0)), (1, .ref (ad 0 0)), (0, .ref b)] (by decide) rfl dL_law_1916 ?_
  refine v_aload_n C 5 rfl rfl dL_law_1918 ?_
  refine v_callVi C (st := []) [] ((thr_of l hA2 hx2).frmI hJ3.i2) ml_RL_120 mi_yX5_thrown (hx2 ▸ hJ3.km) (by decide) (by decide +kernel) rfl (Nat.le_of_ble_eq_true rfl) (Nat.le_of_ble_eq_true rfl) (Nat.le_of_ble_eq_true rfl) (by show _ + 0 ≤ 603072; omega) (by show _ + 0 ≤ 7207018; omega) dL_law_1919 (fun r3 w3 h => ?_) _ rfl
  obtain ⟨u3, ⟨hr4, rfl⟩, hc3, rfl⟩ := h
  rw [fr_self hJ3.i2]
  refine v_iload C 1 rfl dL_law_1922 ?_
  refine v_icmp_eq C 1929 (by decide) dL_law_1924 (fun c1924 => ?_) (fun q => ((q (hr4.symm.trans hκ.symm) : False)).elim)
  refine v_iload C 1 rfl dL_law_1929 ?_
  refine v_if_ne C 1966 (by decide) dL_law_1931 (fun hz => ?_) (fun hz => ?_)
  · refine v_goto C 1969 (by decide) dL_law_1966 ?_
    exact V.sub [2, 3, 4, 5, 6, 7] rfl (kk _ _ _ ad1 am2 q1 _ _ _ hJ3 hx1 hx2 hI2 (Or.inl ⟨rfl, by omega, by omega⟩))
  · refine v_aload C 3 rfl dL_law_1934 ?_
    refine v_iconst C 0 (by decide) dL_law_1936 ?_
    refine v_dald C v2 hJ3.rdx.1 (by rw [hJ3.rdx.2.1]; unfold vp_in; decide) (hr3 hz) dL_law_1937 ?_
    refine v_dload C 0 rfl dL_law_1938 ?_
    have hnn : FP.Core.dIsNaN v2 = false := by
      rcases hR2 with ⟨-, g0, -, g1⟩ | ⟨g0, -⟩
      · rw [← g1]; exact nn_dq g0
      · exact absurd (hz.symm.trans (hκ.trans g0)) (by decide)
    refine v_dcmp C dL_law_1940 ?_
    rw [val_nn hnn]
    refine v_if_eq C 1966 (by decide) dL_law_1941 (fun _ => ?_) (fun q => absurd (by decide) q)
    refine v_goto C 1969 (by decide) dL_law_1966 ?_
    exact V.sub [2, 3, 4, 5, 6, 7] rfl (kk _ _ _ ad1 am2 q1 _ _ _ hJ3 hx1 hx2 hI2 (Or.inl ⟨rfl, by omega, by omega⟩))
