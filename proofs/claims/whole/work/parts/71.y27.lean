/-! the text of the signs, which lies outside the worlds -/
def cG (G : GT) (l : Launch) (y : MethodName) (cc : ByteArray) (maxL : Nat) (ret : Option FieldType) (d : Nat) (av : List Value) (S : HS) (post : Option Value → HS → Prop) (mc ms : Nat) : Prop :=
  ∀ (sz : Nat), Met l y (.code y cc maxL ret :: wsG) (rmD d mc ms) (va_Pc av (wB G S sz)) (gQ post G (dA S sz)) mc ms (dA S sz)
theorem cG_intro {G : GT} {l : Launch} {y : MethodName} {cc : ByteArray} {maxL : Nat} {ret : Option FieldType} {d : Nat} {av : List Value} {S : HS} {post : Option Value → HS → Prop} {mc ms : Nat} (hy : plainFor y = true) (hw : Cond.code y cc maxL ret ∈ wsG) (hn : (lg_sl av).length ≤ maxL)
    (body : ∀ (p : Program) (e : Env) (s : State) (m : MethodId) (args : Array Value) (below : List Frame) (meth : Method) (c : Code) (A : Nat → Prop), Cx p l e (rmD d mc ms) s m args below meth c cc maxL y.cls G A → meth.sig.returnType = ret → meth.name = y.name → V p l e (rmD d mc ms) s m args below meth c maxL G A S 0 0 (MQ below (gQ post G A) args s mc ms A) 0 (lv_args 0 av) []) : cG G l y cc maxL ret d av S post mc ms := by
  intro sz
  refine Met.ofWF (cc := cc) (maxL := maxL) (ret := ret) hy rfl ?_
  intro p e s m args below meth c s₁ B hml hv
  obtain ⟨rfl, hsz, hW, hK9, hE⟩ := hv
  subst hsz
  have hts := atoms_spec (ws := Cond.code y cc maxL ret :: wsG) B.pre
  have C : Cx p l e (rmD d mc ms) s m av.toArray below meth c cc maxL y.cls G (dA S s.heap.size) := ⟨B.exec, B.bytes, hml, findClass_of_methodNamed B.named, fun w hw9 => hts w (List.mem_cons_of_mem _ hw9), B.notSynchronized, hK9, hE, fun q h => Or.inr h⟩
  have hl := lv_entry av (n := maxL) hn
  rw [lg_entry_eq]
  exact body p e s m _ below meth c _ C B.returns (name_of_methodNamed B.named B.method).1 s.heap [] _ hW va_S.rf hl
abbrev rowB : Nat → Value := fun j => .int (([110, 104, 120, 108, 109, 103] : List Int32).getD j 0)
section STR
variable {p : Program} {l : Launch} {e : Env} {R : Room} {s : State} {m : MethodId} {args : Array Value} {below : List Frame} {meth : Method} {c : Code} {cc : ByteArray} {nL : Nat} {own : String} {G : GT} {A : Nat → Prop} {S : HS} {k n : Nat} {Q : State → Prop} {pc : Nat} {lv lv' : List (Nat × Value)} {st : List Value}
theorem v_ldcSW (C : Cx p l e R s m args below meth c cc nL own G A) {index : Nat} {tx : String} (hi : (index, tx) ∈ strs) (hown : own = RX4) (hd : decode cc pc = .ok (.ldc_w index, 3)) (kk : V p l e R s m args below meth c nL G A (S) (k) (n) Q (pc + 3) (lv) (.ref (G.2.2 index) :: st)) : V p l e R s m args below meth c nL G A (S) (k) (n) Q (pc) (lv) (st) := by
  intro H locs ls hW hS hv
  have hZ := C.2.2.2.2.2.2.2.1.2.2.1 _ hi
  intro T hT X
  have hown2 := C.2.2.2.1
  rw [hown] at hown2
  obtain ⟨t, a1, b1⟩ := kk H locs ls hW hS hv T hT X
  exact ⟨t, X.ldcStringW C.1 hown2 (text := tx) (a := G.2.2 index) hZ.1 hZ.2 (g := F0 m pc ls st) rfl (by rw [C.2.1]; exact hd) t a1, b1⟩
theorem v_gtsCS (C : Cx p l e R s m args below meth c cc nL own G A) {index : Nat} (hw : Cond.fieldLink own index "java/lang/String" "COMPACT_STRINGS" "Z" ∈ wsG) (hd : decode cc pc = .ok (.getstatic index, 3)) (kk : V p l e R s m args below meth c nL G A (S) (k) (n) Q (pc + 3) (lv) (.int 1 :: st)) : V p l e R s m args below meth c nL G A (S) (k) (n) Q (pc) (lv) (st) := fun H locs ls hW hS hv => va_gets C.1 C.2.1 C.2.2.2.2.2.2.2.1.2.2.2.2.2.1 hS C.2.2.2.1 (C.2.2.2.2.1 _ hw) (fun _ h => h) hd (kk H locs ls hW hS hv)
theorem v_gtCod (C : Cx p l e R s m args below meth c cc nL own G A) {index : Nat} (hw : Cond.fieldLink own index "java/lang/String" "coder" "B" ∈ wsG) (hd : decode cc pc = .ok (.getfield index, 3)) (kk : V p l e R s m args below meth c nL G A (S) (k) (n) Q (pc + 3) (lv) (.int 0 :: st)) : V p l e R s m args below meth c nL G A (S) (k) (n) Q (pc) (lv) (.ref (G.2.2 320) :: st) := fun H locs ls hW hS hv => vk_getf C.1 C.2.1 C.2.2.2.2.2.2.2.1.2.2.2.2.2.2.2.1 hS C.2.2.2.1 (C.2.2.2.2.1 _ hw) (fun _ h => h) hd (kk H locs ls hW hS hv)
theorem v_gtVal (C : Cx p l e R s m args below meth c cc nL own G A) {index : Nat} (hw : Cond.fieldLink own index "java/lang/String" "value" "[B" ∈ wsG) (hd : decode cc pc = .ok (.getfield index, 3)) (kk : V p l e R s m args below meth c nL G A (S) (k) (n) Q (pc + 3) (lv) (.ref (G.2.2 0) :: st)) : V p l e R s m args below meth c nL G A (S) (k) (n) Q (pc) (lv) (.ref (G.2.2 320) :: st) := fun H locs ls hW hS hv => vk_getf C.1 C.2.1 C.2.2.2.2.2.2.2.1.2.2.2.2.2.2.2.2.1 hS C.2.2.2.1 (C.2.2.2.2.1 _ hw) (fun _ h => h) hd (kk H locs ls hW hS hv)
theorem v_lenT (C : Cx p l e R s m args below meth c cc nL own G A) (hd : decode cc pc = .ok (.arraylength, 1)) (kk : V p l e R s m args below meth c nL G A (S) (k) (n) Q (pc + 1) (lv) (.int 6 :: st)) : V p l e R s m args below meth c nL G A (S) (k) (n) Q (pc) (lv) (.ref (G.2.2 0) :: st) := fun H locs ls hW hS hv => va_tlen C.1 C.2.1 C.2.2.2.2.2.2.2.1.2.2.2.2.2.2.2.2.2 hS (v := 6) rfl hd (kk H locs ls hW hS hv)
theorem v_baT (C : Cx p l e R s m args below meth c cc nL own G A) {i : Int32} (x : Int32) (hi : vp_in i 6) (hx : rowB i.toNatClampNeg = .int x) (hd : decode cc pc = .ok (.baload, 1)) (kk : V p l e R s m args below meth c nL G A (S) (k) (n) Q (pc + 1) (lv) (.int x :: st)) : V p l e R s m args below meth c nL G A (S) (k) (n) Q (pc) (lv) (.int i :: .ref (G.2.2 0) :: st) := fun H locs ls hW hS hv => va_tb C.1 C.2.1 C.2.2.2.2.2.2.2.1.2.2.2.2.2.2.2.2.2 hS hi hx hd (kk H locs ls hW hS hv)
theorem v_i2b (C : Cx p l e R s m args below meth c cc nL own G A) {x : Int32} (hd : decode cc pc = .ok (.i2b, 1)) (kk : V p l e R s m args below meth c nL G A (S) (k) (n) Q (pc + 1) (lv) (.int x.toInt8.toInt32 :: st)) : V p l e R s m args below meth c nL G A (S) (k) (n) Q (pc) (lv) (.int x :: st) := fun H locs ls hW hS hv => lv_i2b C.1 C.2.1 hd rfl (kk H locs ls hW hS hv)
theorem v_callSGi (C : Cx p l e R s m args below meth c cc nL own G A) {idx : Nat} {y : MethodName} {cb : ByteArray} {maxL : Nat} {ret : Option FieldType} {nargs d mc ms : Nat} {f : Int32 → HS → Prop} (as : List Value) (hM : cG G l y cb maxL ret d as S (pI f) mc ms) (hL : ML own idx y cb maxL ret nargs) (hL2 : Cond.static y ∈ wsG) (hn : as.length = nargs) (hst : (st.map fun v => v.category).sum ≤ 8) (hfr : d + 1 ≤ R.frames) (hlo : 8 + (maxL + 11) + 40 * d ≤ R.locals) (hcl : k + mc ≤ R.cells) (hsl : n + ms ≤ R.slots) (hd : decode cc pc = .ok (.invokestatic idx, 3)) (kk : ∀ (r : Int32) (u : HS), f r u → V p l e R s m args below meth c nL G A (u) (k + mc) (n + ms) Q (pc + 3) (lv) (.int r :: st)) (st0 : List Value) (hst0 : st0 = as.reverse ++ st) : V p l e R s m args below meth c nL G A (S) (k) (n) Q (pc) (lv) (st0) := by
  intro H locs ls hW hS hv
  subst hst0
  have hfr9 := C.fr hW hS
  refine g_call (va_runS (As := as) (rest := st) C.fix (hM H.size) ⟨hL.callB C hfr hlo, C.2.2.2.2.1 _ hL2⟩ (C.pre hW hS as) rfl hn hv.1 rfl (lv_room hst) hd ⟨hcl, hsl⟩) hS (fun q _ h => hfr9 q h) hfr9 (fun v u t H1 locs1 ht _ hp hB _ _ hS1 => ?_)
  obtain ⟨r, rfl, hp⟩ := hp
  subst ht
  exact kk r u hp _ locs1 ls (hB.1.weaken (fun q hq => hfr9 q (hB.1.dom hq).1)) hS1 hv
theorem v_callVGi (C : Cx p l e R s m args below meth c cc nL own G A) {idx : Nat} {y : MethodName} {cb : ByteArray} {maxL : Nat} {ret : Option FieldType} {nargs d mc ms : Nat} {f : Int32 → HS → Prop} (as : List Value) (hM : cG G l y cb maxL ret d (.ref (G.2.2 320) :: as) S (pI f) mc ms) (hL : ML own idx y cb maxL ret nargs) (hL2 : Cond.instanceMethod y ∈ wsG ∧ Cond.selects y.cls y y ∈ wsG) (hyc : y.cls = "java/lang/String") (hn : as.length = nargs) (hst : (st.map fun v => v.category).sum ≤ 8) (hfr : d + 1 ≤ R.frames) (hlo : 8 + (maxL + 11) + 40 * d ≤ R.locals) (hcl : k + mc ≤ R.cells) (hsl : n + ms ≤ R.slots) (hd : decode cc pc = .ok (.invokevirtual idx, 3)) (kk : ∀ (r : Int32) (u : HS), f r u → V p l e R s m args below meth c nL G A (u) (k + mc) (n + ms) Q (pc + 3) (lv) (.int r :: st)) (st0 : List Value) (hst0 : st0 = as.reverse ++ .ref (G.2.2 320) :: st) : V p l e R s m args below meth c nL G A (S) (k) (n) Q (pc) (lv) (st0) := by
  intro H locs ls hW hS hv
  subst hst0
  have hfr9 := C.fr hW hS
  refine g_call (va_runV (As := as) (rest := st) C.fix (hM H.size) ⟨hL.callB C hfr hlo, C.2.2.2.2.1 _ hL2.1, C.2.2.2.2.1 _ hL2.2⟩ ⟨wB.blind G S H.size _, by rw [hyc]; exact va_Orecv C.2.2.2.2.2.2.2.1.2.2.2.2.2.2.1 hS, (C.pre hW hS (.ref (G.2.2 320) :: as)).2⟩ rfl hn hv.1 rfl (lv_room hst) hd ⟨hcl, hsl⟩) hS (fun q _ h => hfr9 q h) hfr9 (fun v u t H1 locs1 ht _ hp hB _ _ hS1 => ?_)
  obtain ⟨r, rfl, hp⟩ := hp
  subst ht
  exact kk r u hp _ locs1 ls (hB.1.weaken (fun q hq => hfr9 q (hB.1.dom hq).1)) hS1 hv
end STR
theorem fs_38 : Cond.fieldLink RJ0 38 "java/lang/String" "COMPACT_STRINGS" "Z" ∈ wsG := wsG_in 801 (by decide +kernel) (by decide +kernel)
theorem fs_15 : Cond.fieldLink RJ0 15 "java/lang/String" "coder" "B" ∈ wsG := wsG_in 1270 (by decide +kernel) (by decide +kernel)
theorem fs_9 : Cond.fieldLink RJ0 9 "java/lang/String" "value" "[B" ∈ wsG := wsG_in 1271 (by decide +kernel) (by decide +kernel)
theorem jm_RJ1_92 : JM RJ1 92 Lib.Math.max.name Lib.Math.max.code 2 (some .int) := ⟨wsG_in 817 (by decide +kernel) (by decide +kernel), wsG_in 306 (by decide +kernel) (by decide +kernel), wsG_in 52 (by decide +kernel) (by decide +kernel), wsG_in 307 (by decide +kernel) (by decide +kernel)⟩
theorem jm_RJ1_38 : JM RJ1 38 Lib.Math.min.name Lib.Math.min.code 2 (some .int) := ⟨wsG_in 818 (by decide +kernel) (by decide +kernel), wsG_in 549 (by decide +kernel) (by decide +kernel), wsG_in 52 (by decide +kernel) (by decide +kernel), wsG_in 550 (by decide +kernel) (by decide +kernel)⟩
set_option maxRecDepth 100000 in
set_option maxHeartbeats 4000000 in
theorem c_J0_isLatin1_aae02 (l : Launch) (G : GT) (S : HS) : cG G l yJ0_isLatin1_aae02 cJ0_isLatin1_aae02 1 (Option.some Jvm.ClassFile.FieldType.boolean) 2 [.ref (G.2.2 320)] S (pI fun r u => 1 = r ∧ S = u) 0 0 := by
  refine cG_intro (by decide +kernel) cd_J0_isLatin1_aae02 (Nat.le_of_ble_eq_true rfl) ?_
  intro pP eE sS mM aA bB tT cC A C hRT hin
  refine V.lvs (lv2 := [(0, .ref (G.2.2 320))]) rfl ?_
  refine v_gtsCS C fs_38 dJ0_isLatin1_aae02_0 ?_
  refine v_if_eq C 17 (by decide) dJ0_isLatin1_aae02_3 (fun q => absurd q (by decide)) (fun _ => ?_)
  refine v_aload_n C 0 rfl rfl dJ0_isLatin1_aae02_6 ?_
  refine v_gtCod C fs_15 dJ0_isLatin1_aae02_7 ?_
  refine v_if_ne C 17 (by decide) dJ0_isLatin1_aae02_10 (fun q => absurd (by decide) q) (fun _ => ?_)
  refine v_iconst C 1 (by decide) dJ0_isLatin1_aae02_13 ?_
  refine v_goto C 18 (by decide) dJ0_isLatin1_aae02_14 ?_
  exact v_zret C (by decide) hRT (Nat.le_of_ble_eq_true rfl) (Nat.le_of_ble_eq_true rfl) dJ0_isLatin1_aae02_18 ⟨_, rfl, rfl, rfl⟩
set_option maxRecDepth 100000 in
set_option maxHeartbeats 4000000 in
theorem c_J0_coder_7d493 (l : Launch) (G : GT) (S : HS) : cG G l yJ0_coder_7d493 cJ0_coder_7d493 1 (Option.some Jvm.ClassFile.FieldType.byte) 2 [.ref (G.2.2 320)] S (pI fun r u => 0 = r ∧ S = u) 0 0 := by
  refine cG_intro (by decide +kernel) cd_J0_coder_7d493 (Nat.le_of_ble_eq_true rfl) ?_
  intro pP eE sS mM aA bB tT cC A C hRT hin
  refine V.lvs (lv2 := [(0, .ref (G.2.2 320))]) rfl ?_
  refine v_gtsCS C fs_38 dJ0_coder_7d493_0 ?_
  refine v_if_eq C 13 (by decide) dJ0_coder_7d493_3 (fun q => absurd q (by decide)) (fun _ => ?_)
  refine v_aload_n C 0 rfl rfl dJ0_coder_7d493_6 ?_
  refine v_gtCod C fs_15 dJ0_coder_7d493_7 ?_
  refine v_goto C 14 (by decide) dJ0_coder_7d493_10 ?_
  exact v_zret C (by decide) hRT (Nat.le_of_ble_eq_true rfl) (Nat.le_of_ble_eq_true rfl) dJ0_coder_7d493_14 ⟨_, rfl, rfl, rfl⟩
set_option maxRecDepth 100000 in
set_option maxHeartbeats 4000000 in
theorem c_J0_length_8abf5 (l : Launch) (G : GT) (S : HS) : cG G l yJ0_length_8abf5 cJ0_length_8abf5 1 (Option.some Jvm.ClassFile.FieldType.int) 4 [.ref (G.2.2 320)] S (pI fun r u => 6 = r ∧ S = u) 0 0 := by
  refine cG_intro (by decide +kernel) cd_J0_length_8abf5 (Nat.le_of_ble_eq_true rfl) ?_
  intro pP eE sS mM aA bB tT cC A C hRT hin
  refine V.lvs (lv2 := [(0, .ref (G.2.2 320))]) rfl ?_
  refine v_aload_n C 0 rfl rfl dJ0_length_8abf5_0 ?_
  refine v_gtVal C fs_9 dJ0_length_8abf5_1 ?_
  refine v_lenT C dJ0_length_8abf5_4 ?_
  refine v_aload_n C 0 rfl rfl dJ0_length_8abf5_5 ?_
  refine v_callVGi C (st := [.int 6]) [] (c_J0_coder_7d493 l G S) ml_RJ0_335 mi_yJ0_coder_7d493 rfl rfl (Nat.le_of_ble_eq_true rfl) (Nat.le_of_ble_eq_true rfl) (Nat.le_of_ble_eq_true rfl) (Nat.le_of_ble_eq_true rfl) (Nat.le_of_ble_eq_true rfl) dJ0_length_8abf5_6 (fun r u h => ?_) _ rfl
  obtain ⟨rfl, rfl⟩ := h
  refine v_ishr C dJ0_length_8abf5_9 ?_
  rw [show (6 : Int32) >>> ((0 : Int32) &&& 31) = 6 from by decide]
  exact v_iret C hRT (Nat.le_of_ble_eq_true rfl) (Nat.le_of_ble_eq_true rfl) dJ0_length_8abf5_10 ⟨_, rfl, rfl, rfl⟩
set_option maxRecDepth 100000 in
set_option maxHeartbeats 4000000 in
theorem c_J1_canEncode_9a6ad (l : Launch) (S : HS) (x : Int32) : cM l yJ1_canEncode_9a6ad cJ1_canEncode_9a6ad 1 (Option.some Jvm.ClassFile.FieldType.boolean) 2 [.int x] S (pI fun r u => bI (¬ x < 0 ∧ ¬ 255 < x) = r ∧ S = u) 0 0 := by
  refine cM_intro (by decide +kernel) cd_J1_canEncode_9a6ad (Nat.le_of_ble_eq_true rfl) ?_
  intro pP eE sS mM aA bB tT cC G A C hRT hin
  refine V.lvs (lv2 := [(0, .int x)]) rfl ?_
  refine v_iload_n C 0 rfl rfl dJ1_canEncode_9a6ad_0 ?_
  refine v_if_lt C 15 (by decide) dJ1_canEncode_9a6ad_1 (fun c1 => ?_) (fun c1 => ?_)
  · refine v_iconst C 0 (by decide) dJ1_canEncode_9a6ad_15 ?_
    exact v_zret C (by decide) hRT (Nat.le_of_ble_eq_true rfl) (Nat.le_of_ble_eq_true rfl) dJ1_canEncode_9a6ad_16 ⟨_, rfl, bI0 (fun z => z.1 c1), rfl⟩
  · refine v_iload_n C 0 rfl rfl dJ1_canEncode_9a6ad_4 ?_
    refine v_sipush C 255 (by decide) dJ1_canEncode_9a6ad_5 ?_
    refine v_icmp_gt C 15 (by decide) dJ1_canEncode_9a6ad_8 (fun c8 => ?_) (fun c8 => ?_)
    · refine v_iconst C 0 (by decide) dJ1_canEncode_9a6ad_15 ?_
      exact v_zret C (by decide) hRT (Nat.le_of_ble_eq_true rfl) (Nat.le_of_ble_eq_true rfl) dJ1_canEncode_9a6ad_16 ⟨_, rfl, bI0 (fun z => z.2 c8), rfl⟩
    · refine v_iconst C 1 (by decide) dJ1_canEncode_9a6ad_11 ?_
      refine v_goto C 16 (by decide) dJ1_canEncode_9a6ad_12 ?_
      exact v_zret C (by decide) hRT (Nat.le_of_ble_eq_true rfl) (Nat.le_of_ble_eq_true rfl) dJ1_canEncode_9a6ad_16 ⟨_, rfl, bI1 ⟨c1, c8⟩, rfl⟩
theorem b_ix {x : Int32} (h0 : ¬ x < 0) (h1 : ¬ 255 < x) : (x.toInt8.toInt32 = 110 ↔ x = 110) ∧ (x.toInt8.toInt32 = 104 ↔ x = 104) ∧ (x.toInt8.toInt32 = 120 ↔ x = 120) ∧ (x.toInt8.toInt32 = 108 ↔ x = 108) ∧ (x.toInt8.toInt32 = 109 ↔ x = 109) ∧ (x.toInt8.toInt32 = 103 ↔ x = 103) := by
  obtain ⟨n, hn, rfl⟩ := nI_of h0
  have hn2 : n < 256 := by
    rcases Nat.lt_or_ge n 256 with z | z
    · exact z
    · exact absurd (nI_ltn (a := 255) (b := n) (by omega) hn) h1
  exact (by decide +kernel : ∀ n : Nat, n < 256 → ((nI n).toInt8.toInt32 = 110 ↔ nI n = 110) ∧ ((nI n).toInt8.toInt32 = 104 ↔ nI n = 104) ∧ ((nI n).toInt8.toInt32 = 120 ↔ nI n = 120) ∧ ((nI n).toInt8.toInt32 = 108 ↔ nI n = 108) ∧ ((nI n).toInt8.toInt32 = 109 ↔ nI n = 109) ∧ ((nI n).toInt8.toInt32 = 103 ↔ nI n = 103)) n hn2
def ixR (x : Int32) (r : Int32) : Prop := (isSgn x ∧ ¬ r < 0) ∨ (¬ isSgn x ∧ r < 0)
set_option maxRecDepth 100000 in
set_option maxHeartbeats 4000000 in
theorem c_J1_indexOfChar_4cfef (l : Launch) (G : GT) (S : HS) (x : Int32) (h0 : ¬ x < 0) (h1 : ¬ 255 < x) : cG G l yJ1_indexOfChar_4cfef cJ1_indexOfChar_4cfef 6 (Option.some Jvm.ClassFile.FieldType.int) 2 [.ref (G.2.2 0), .int x, .int 0, .int 6] S (pI fun r u => S = u ∧ ixR x r) 0 0 := by
  refine cG_intro (by decide +kernel) cd_J1_indexOfChar_4cfef (Nat.le_of_ble_eq_true rfl) ?_
  intro pP eE sS mM aA bB tT cC A C hRT hin
  refine V.lvs (lv2 := [(0, .ref (G.2.2 0)), (1, .int x), (2, .int 0), (3, .int 6)]) rfl ?_
  obtain ⟨b0, b1, b2, b3, b4, b5⟩ := b_ix h0 h1
  refine v_iload_n C 1 rfl rfl dJ1_indexOfChar_4cfef_0 ?_
  refine v_i2b C dJ1_indexOfChar_4cfef_1 ?_
  refine v_istore C [(4, .int x.toInt8.toInt32), (0, .ref (G.2.2 0)), (1, .int x), (2, .int 0), (3, .int 6)] (by decide) rfl dJ1_indexOfChar_4cfef_2 ?_
  refine v_iload_n C 3 rfl rfl dJ1_indexOfChar_4cfef_4 ?_
  refine v_istore C [(5, .int 0), (4, .int x.toInt8.toInt32), (0, .ref (G.2.2 0)), (1, .int x), (2, .int 0), (3, .int 6)] (by decide) rfl dJ1_indexOfChar_4cfef_5 ?_
  refine v_iload C 0 rfl dJ1_indexOfChar_4cfef_7 ?_
  refine v_iload_n C 5 rfl rfl dJ1_indexOfChar_4cfef_9 ?_
  refine v_icmp_ge C 31 (by decide) dJ1_indexOfChar_4cfef_10 (fun q => absurd q (by decide)) (fun _ => ?_)
  refine v_aload_n C 2 rfl rfl dJ1_indexOfChar_4cfef_13 ?_
  refine v_iload C 0 rfl dJ1_indexOfChar_4cfef_14 ?_
  refine v_baT C 110 (show vp_in (nI 0) 6 from vp_in_nI (by decide) (by decide)) rfl dJ1_indexOfChar_4cfef_16 ?_
  refine v_iload C 1 rfl dJ1_indexOfChar_4cfef_17 ?_
  refine v_icmp_ne C 25 (by decide) dJ1_indexOfChar_4cfef_19 (fun cc0 => ?_) (fun cc0 => ?_)
  · refine v_iinc C 1 0 [(5, .int 1), (4, .int x.toInt8.toInt32), (0, .ref (G.2.2 0)), (1, .int x), (2, .int 0), (3, .int 6)] rfl (by decide) (by decide) rfl dJ1_indexOfChar_4cfef_25 ?_
    refine v_goto C 7 (by decide) dJ1_indexOfChar_4cfef_28 ?_
    refine v_iload C 0 rfl dJ1_indexOfChar_4cfef_7 ?_
    refine v_iload_n C 5 rfl rfl dJ1_indexOfChar_4cfef_9 ?_
    refine v_icmp_ge C 31 (by decide) dJ1_indexOfChar_4cfef_10 (fun q => absurd q (by decide)) (fun _ => ?_)
    refine v_aload_n C 2 rfl rfl dJ1_indexOfChar_4cfef_13 ?_
    refine v_iload C 0 rfl dJ1_indexOfChar_4cfef_14 ?_
    refine v_baT C 104 (show vp_in (nI 1) 6 from vp_in_nI (by decide) (by decide)) rfl dJ1_indexOfChar_4cfef_16 ?_
    refine v_iload C 1 rfl dJ1_indexOfChar_4cfef_17 ?_
    refine v_icmp_ne C 25 (by decide) dJ1_indexOfChar_4cfef_19 (fun cc1 => ?_) (fun cc1 => ?_)
    · refine v_iinc C 2 0 [(5, .int 2), (4, .int x.toInt8.toInt32), (0, .ref (G.2.2 0)), (1, .int x), (2, .int 0), (3, .int 6)] rfl (by decide) (by decide) rfl dJ1_indexOfChar_4cfef_25 ?_
      refine v_goto C 7 (by decide) dJ1_indexOfChar_4cfef_28 ?_
      refine v_iload C 0 rfl dJ1_indexOfChar_4cfef_7 ?_
      refine v_iload_n C 5 rfl rfl dJ1_indexOfChar_4cfef_9 ?_
      refine v_icmp_ge C 31 (by decide) dJ1_indexOfChar_4cfef_10 (fun q => absurd q (by decide)) (fun _ => ?_)
      refine v_aload_n C 2 rfl rfl dJ1_indexOfChar_4cfef_13 ?_
      refine v_iload C 0 rfl dJ1_indexOfChar_4cfef_14 ?_
      refine v_baT C 120 (show vp_in (nI 2) 6 from vp_in_nI (by decide) (by decide)) rfl dJ1_indexOfChar_4cfef_16 ?_
      refine v_iload C 1 rfl dJ1_indexOfChar_4cfef_17 ?_
      refine v_icmp_ne C 25 (by decide) dJ1_indexOfChar_4cfef_19 (fun cc2 => ?_) (fun cc2 => ?_)
      · refine v_iinc C 3 0 [(5, .int 3), (4, .int x.toInt8.toInt32), (0, .ref (G.2.2 0)), (1, .int x), (2, .int 0), (3, .int 6)] rfl (by decide) (by decide) rfl dJ1_indexOfChar_4cfef_25 ?_
        refine v_goto C 7 (by decide) dJ1_indexOfChar_4cfef_28 ?_
        refine v_iload C 0 rfl dJ1_indexOfChar_4cfef_7 ?_
        refine v_iload_n C 5 rfl rfl dJ1_indexOfChar_4cfef_9 ?_
        refine v_icmp_ge C 31 (by decide) dJ1_indexOfChar_4cfef_10 (fun q => absurd q (by decide)) (fun _ => ?_)
        refine v_aload_n C 2 rfl rfl dJ1_indexOfChar_4cfef_13 ?_
        refine v_iload C 0 rfl dJ1_indexOfChar_4cfef_14 ?_
        refine v_baT C 108 (show vp_in (nI 3) 6 from vp_in_nI (by decide) (by decide)) rfl dJ1_indexOfChar_4cfef_16 ?_
        refine v_iload C 1 rfl dJ1_indexOfChar_4cfef_17 ?_
        refine v_icmp_ne C 25 (by decide) dJ1_indexOfChar_4cfef_19 (fun cc3 => ?_) (fun cc3 => ?_)
        · refine v_iinc C 4 0 [(5, .int 4), (4, .int x.toInt8.toInt32), (0, .ref (G.2.2 0)), (1, .int x), (2, .int 0), (3, .int 6)] rfl (by decide) (by decide) rfl dJ1_indexOfChar_4cfef_25 ?_
          refine v_goto C 7 (by decide) dJ1_indexOfChar_4cfef_28 ?_
          refine v_iload C 0 rfl dJ1_indexOfChar_4cfef_7 ?_
          refine v_iload_n C 5 rfl rfl dJ1_indexOfChar_4cfef_9 ?_
          refine v_icmp_ge C 31 (by decide) dJ1_indexOfChar_4cfef_10 (fun q => absurd q (by decide)) (fun _ => ?_)
          refine v_aload_n C 2 rfl rfl dJ1_indexOfChar_4cfef_13 ?_
          refine v_iload C 0 rfl dJ1_indexOfChar_4cfef_14 ?_
          refine v_baT C 109 (show vp_in (nI 4) 6 from vp_in_nI (by decide) (by decide)) rfl dJ1_indexOfChar_4cfef_16 ?_
          refine v_iload C 1 rfl dJ1_indexOfChar_4cfef_17 ?_
          refine v_icmp_ne C 25 (by decide) dJ1_indexOfChar_4cfef_19 (fun cc4 => ?_) (fun cc4 => ?_)
          · refine v_iinc C 5 0 [(5, .int 5), (4, .int x.toInt8.toInt32), (0, .ref (G.2.2 0)), (1, .int x), (2, .int 0), (3, .int 6)] rfl (by decide) (by decide) rfl dJ1_indexOfChar_4cfef_25 ?_
            refine v_goto C 7 (by decide) dJ1_indexOfChar_4cfef_28 ?_
            refine v_iload C 0 rfl dJ1_indexOfChar_4cfef_7 ?_
            refine v_iload_n C 5 rfl rfl dJ1_indexOfChar_4cfef_9 ?_
            refine v_icmp_ge C 31 (by decide) dJ1_indexOfChar_4cfef_10 (fun q => absurd q (by decide)) (fun _ => ?_)
            refine v_aload_n C 2 rfl rfl dJ1_indexOfChar_4cfef_13 ?_
            refine v_iload C 0 rfl dJ1_indexOfChar_4cfef_14 ?_
            refine v_baT C 103 (show vp_in (nI 5) 6 from vp_in_nI (by decide) (by decide)) rfl dJ1_indexOfChar_4cfef_16 ?_
            refine v_iload C 1 rfl dJ1_indexOfChar_4cfef_17 ?_
            refine v_icmp_ne C 25 (by decide) dJ1_indexOfChar_4cfef_19 (fun cc5 => ?_) (fun cc5 => ?_)
            · refine v_iinc C 6 0 [(5, .int 6), (4, .int x.toInt8.toInt32), (0, .ref (G.2.2 0)), (1, .int x), (2, .int 0), (3, .int 6)] rfl (by decide) (by decide) rfl dJ1_indexOfChar_4cfef_25 ?_
              refine v_goto C 7 (by decide) dJ1_indexOfChar_4cfef_28 ?_
              refine v_iload C 0 rfl dJ1_indexOfChar_4cfef_7 ?_
              refine v_iload_n C 5 rfl rfl dJ1_indexOfChar_4cfef_9 ?_
              refine v_icmp_ge C 31 (by decide) dJ1_indexOfChar_4cfef_10 (fun _ => ?_) (fun q => absurd (by decide) q)
              refine v_iconst C (-1) (by decide) dJ1_indexOfChar_4cfef_31 ?_
              exact v_iret C hRT (Nat.le_of_ble_eq_true rfl) (Nat.le_of_ble_eq_true rfl) dJ1_indexOfChar_4cfef_32 ⟨_, rfl, rfl, Or.inr ⟨fun z => by rcases z with z | z | z | z | z | z; exact cc0 (b0.mpr z).symm; exact cc1 (b1.mpr z).symm; exact cc2 (b2.mpr z).symm; exact cc3 (b3.mpr z).symm; exact cc4 (b4.mpr z).symm; exact cc5 (b5.mpr z).symm, by decide⟩⟩
            · refine v_iload C 0 rfl dJ1_indexOfChar_4cfef_22 ?_
              exact v_iret C hRT (Nat.le_of_ble_eq_true rfl) (Nat.le_of_ble_eq_true rfl) dJ1_indexOfChar_4cfef_24 ⟨_, rfl, rfl, Or.inl ⟨Or.inr (Or.inr (Or.inr (Or.inr (Or.inr (b5.mp cc5.symm))))), by decide⟩⟩
          · refine v_iload C 0 rfl dJ1_indexOfChar_4cfef_22 ?_
            exact v_iret C hRT (Nat.le_of_ble_eq_true rfl) (Nat.le_of_ble_eq_true rfl) dJ1_indexOfChar_4cfef_24 ⟨_, rfl, rfl, Or.inl ⟨Or.inr (Or.inr (Or.inr (Or.inr (Or.inl (b4.mp cc4.symm))))), by decide⟩⟩
        · refine v_iload C 0 rfl dJ1_indexOfChar_4cfef_22 ?_
          exact v_iret C hRT (Nat.le_of_ble_eq_true rfl) (Nat.le_of_ble_eq_true rfl) dJ1_indexOfChar_4cfef_24 ⟨_, rfl, rfl, Or.inl ⟨Or.inr (Or.inr (Or.inr (Or.inl (b3.mp cc3.symm)))), by decide⟩⟩
      · refine v_iload C 0 rfl dJ1_indexOfChar_4cfef_22 ?_
        exact v_iret C hRT (Nat.le_of_ble_eq_true rfl) (Nat.le_of_ble_eq_true rfl) dJ1_indexOfChar_4cfef_24 ⟨_, rfl, rfl, Or.inl ⟨Or.inr (Or.inr (Or.inl (b2.mp cc2.symm))), by decide⟩⟩
    · refine v_iload C 0 rfl dJ1_indexOfChar_4cfef_22 ?_
      exact v_iret C hRT (Nat.le_of_ble_eq_true rfl) (Nat.le_of_ble_eq_true rfl) dJ1_indexOfChar_4cfef_24 ⟨_, rfl, rfl, Or.inl ⟨Or.inr (Or.inl (b1.mp cc1.symm)), by decide⟩⟩
  · refine v_iload C 0 rfl dJ1_indexOfChar_4cfef_22 ?_
    exact v_iret C hRT (Nat.le_of_ble_eq_true rfl) (Nat.le_of_ble_eq_true rfl) dJ1_indexOfChar_4cfef_24 ⟨_, rfl, rfl, Or.inl ⟨Or.inl (b0.mp cc0.symm), by decide⟩⟩
theorem sgn_255 {x : Int32} (h : isSgn x) : ¬ x < 0 ∧ ¬ 255 < x := by
  rcases h with rfl | rfl | rfl | rfl | rfl | rfl <;> decide
set_option maxRecDepth 100000 in
set_option maxHeartbeats 4000000 in
theorem c_J1_indexOf_4cfef (l : Launch) (G : GT) (S : HS) (x : Int32) : cG G l yJ1_indexOf_4cfef cJ1_indexOf_4cfef 4 (Option.some Jvm.ClassFile.FieldType.int) 4 [.ref (G.2.2 0), .int x, .int 0, .int 6] S (pI fun r u => S = u ∧ ixR x r) 0 0 := by
  refine cG_intro (by decide +kernel) cd_J1_indexOf_4cfef (Nat.le_of_ble_eq_true rfl) ?_
  intro pP eE sS mM aA bB tT cC A C hRT hin
  refine V.lvs (lv2 := [(0, .ref (G.2.2 0)), (1, .int x), (2, .int 0), (3, .int 6)]) rfl ?_
  refine v_iload_n C 1 rfl rfl dJ1_indexOf_4cfef_0 ?_
  refine v_callSi C (st := []) [.int x] (c_J1_canEncode_9a6ad l S x) ml_RJ1_88 ms_yJ1_canEncode_9a6ad rfl (Nat.le_of_ble_eq_true rfl) (Nat.le_of_ble_eq_true rfl) (Nat.le_of_ble_eq_true rfl) (Nat.le_of_ble_eq_true rfl) (Nat.le_of_ble_eq_true rfl) dJ1_indexOf_4cfef_1 (fun r u h => ?_) _ rfl
  obtain ⟨rfl, rfl⟩ := h
  refine v_if_ne C 9 (by decide) dJ1_indexOf_4cfef_4 (fun c4 => ?_) (fun c4 => ?_)
  · refine v_iload_n C 2 rfl rfl dJ1_indexOf_4cfef_9 ?_
    refine v_iconst C 0 (by decide) dJ1_indexOf_4cfef_10 ?_
    refine v_max C jm_RJ1_92 (Nat.le_of_ble_eq_true rfl) (Nat.le_of_ble_eq_true rfl) (Nat.le_of_ble_eq_true rfl) (Nat.le_of_ble_eq_true rfl) (Nat.le_of_ble_eq_true rfl) dJ1_indexOf_4cfef_11 ?_
    rw [show (if (0 : Int32) < 0 then 0 else 0) = (0 : Int32) from by decide]
    refine v_istore_n C [(2, .int 0), (0, .ref (G.2.2 0)), (1, .int x), (3, .int 6)] (by decide) rfl rfl dJ1_indexOf_4cfef_14 ?_
    refine v_iload_n C 3 rfl rfl dJ1_indexOf_4cfef_15 ?_
    refine v_aload_n C 1 rfl rfl dJ1_indexOf_4cfef_16 ?_
    refine v_lenT C dJ1_indexOf_4cfef_17 ?_
    refine v_min C jm_RJ1_38 (Nat.le_of_ble_eq_true rfl) (Nat.le_of_ble_eq_true rfl) (Nat.le_of_ble_eq_true rfl) (Nat.le_of_ble_eq_true rfl) (Nat.le_of_ble_eq_true rfl) dJ1_indexOf_4cfef_18 ?_
    rw [show (if (6 : Int32) < 6 then 6 else 6) = (6 : Int32) from by decide]
    refine v_istore_n C [(3, .int 6), (2, .int 0), (0, .ref (G.2.2 0)), (1, .int x)] (by decide) rfl rfl dJ1_indexOf_4cfef_21 ?_
    refine v_iload_n C 1 rfl rfl dJ1_indexOf_4cfef_22 ?_
    refine v_iload_n C 0 rfl rfl dJ1_indexOf_4cfef_23 ?_
    refine v_icmp_lt C 29 (by decide) dJ1_indexOf_4cfef_24 (fun _ => ?_) (fun q => absurd (by decide) q)
    refine v_aload_n C 2 rfl rfl dJ1_indexOf_4cfef_29 ?_
    refine v_iload_n C 3 rfl rfl dJ1_indexOf_4cfef_30 ?_
    refine v_iload_n C 1 rfl rfl dJ1_indexOf_4cfef_31 ?_
    refine v_iload_n C 0 rfl rfl dJ1_indexOf_4cfef_32 ?_
    refine v_callSGi C (st := []) [.ref (G.2.2 0), .int x, .int 0, .int 6] (c_J1_indexOfChar_4cfef l G S x (bI_n0 c4).1 (bI_n0 c4).2) ml_RJ1_95 ms_yJ1_indexOfChar_4cfef rfl (Nat.le_of_ble_eq_true rfl) (Nat.le_of_ble_eq_true rfl) (Nat.le_of_ble_eq_true rfl) (Nat.le_of_ble_eq_true rfl) (Nat.le_of_ble_eq_true rfl) dJ1_indexOf_4cfef_33 (fun r u h => ?_) _ rfl
    obtain ⟨rfl, hr9⟩ := h
    exact v_iret C hRT (Nat.le_of_ble_eq_true rfl) (Nat.le_of_ble_eq_true rfl) dJ1_indexOf_4cfef_36 ⟨_, rfl, rfl, hr9⟩
  · refine v_iconst C (-1) (by decide) dJ1_indexOf_4cfef_7 ?_
    exact v_iret C hRT (Nat.le_of_ble_eq_true rfl) (Nat.le_of_ble_eq_true rfl) dJ1_indexOf_4cfef_8 ⟨_, rfl, rfl, Or.inr ⟨fun z => bI_e0 c4 (sgn_255 z), by decide⟩⟩
set_option maxRecDepth 100000 in
set_option maxHeartbeats 4000000 in
theorem c_J0_indexOf_7cf53 (l : Launch) (G : GT) (S : HS) (x : Int32) : cG G l yJ0_indexOf_7cf53 cJ0_indexOf_7cf53 3 (Option.some Jvm.ClassFile.FieldType.int) 6 [.ref (G.2.2 320), .int x, .int 0] S (pI fun r u => S = u ∧ ixR x r) 0 0 := by
  refine cG_intro (by decide +kernel) cd_J0_indexOf_7cf53 (Nat.le_of_ble_eq_true rfl) ?_
  intro pP eE sS mM aA bB tT cC A C hRT hin
  refine V.lvs (lv2 := [(0, .ref (G.2.2 320)), (1, .int x), (2, .int 0)]) rfl ?_
  refine v_aload_n C 0 rfl rfl dJ0_indexOf_7cf53_0 ?_
  refine v_callVGi C (st := []) [] (c_J0_isLatin1_aae02 l G S) ml_RJ0_492 mi_yJ0_isLatin1_aae02 rfl rfl (Nat.le_of_ble_eq_true rfl) (Nat.le_of_ble_eq_true rfl) (Nat.le_of_ble_eq_true rfl) (Nat.le_of_ble_eq_true rfl) (Nat.le_of_ble_eq_true rfl) dJ0_indexOf_7cf53_1 (fun r u h => ?_) _ rfl
  obtain ⟨rfl, rfl⟩ := h
  refine v_if_eq C 23 (by decide) dJ0_indexOf_7cf53_4 (fun q => absurd q (by decide)) (fun _ => ?_)
  refine v_aload_n C 0 rfl rfl dJ0_indexOf_7cf53_7 ?_
  refine v_gtVal C fs_9 dJ0_indexOf_7cf53_8 ?_
  refine v_iload_n C 1 rfl rfl dJ0_indexOf_7cf53_11 ?_
  refine v_iload_n C 2 rfl rfl dJ0_indexOf_7cf53_12 ?_
  refine v_aload_n C 0 rfl rfl dJ0_indexOf_7cf53_13 ?_
  refine v_callVGi C (st := [.int 0, .int x, .ref (G.2.2 0)]) [] (c_J0_length_8abf5 l G S) ml_RJ0_505 mi_yJ0_length_8abf5 rfl rfl (Nat.le_of_ble_eq_true rfl) (Nat.le_of_ble_eq_true rfl) (Nat.le_of_ble_eq_true rfl) (Nat.le_of_ble_eq_true rfl) (Nat.le_of_ble_eq_true rfl) dJ0_indexOf_7cf53_14 (fun r u h => ?_) _ rfl
  obtain ⟨rfl, rfl⟩ := h
  refine v_callSGi C (st := []) [.ref (G.2.2 0), .int x, .int 0, .int 6] (c_J1_indexOf_4cfef l G S x) ml_RJ0_637 ms_yJ1_indexOf_4cfef rfl (Nat.le_of_ble_eq_true rfl) (Nat.le_of_ble_eq_true rfl) (Nat.le_of_ble_eq_true rfl) (Nat.le_of_ble_eq_true rfl) (Nat.le_of_ble_eq_true rfl) dJ0_indexOf_7cf53_17 (fun r u h => ?_) _ rfl
  obtain ⟨rfl, hr9⟩ := h
  refine v_goto C 36 (by decide) dJ0_indexOf_7cf53_20 ?_
  exact v_iret C hRT (Nat.le_of_ble_eq_true rfl) (Nat.le_of_ble_eq_true rfl) dJ0_indexOf_7cf53_36 ⟨_, rfl, rfl, hr9⟩
set_option maxRecDepth 100000 in
set_option maxHeartbeats 4000000 in
theorem c_J0_indexOf_0f7a4 (l : Launch) (G : GT) (S : HS) (x : Int32) : cG G l yJ0_indexOf_0f7a4 cJ0_indexOf_0f7a4 2 (Option.some Jvm.ClassFile.FieldType.int) 8 [.ref (G.2.2 320), .int x] S (pI fun r u => S = u ∧ ixR x r) 0 0 := by
  refine cG_intro (by decide +kernel) cd_J0_indexOf_0f7a4 (Nat.le_of_ble_eq_true rfl) ?_
  intro pP eE sS mM aA bB tT cC A C hRT hin
  refine V.lvs (lv2 := [(0, .ref (G.2.2 320)), (1, .int x)]) rfl ?_
  refine v_aload_n C 0 rfl rfl dJ0_indexOf_0f7a4_0 ?_
  refine v_iload_n C 1 rfl rfl dJ0_indexOf_0f7a4_1 ?_
  refine v_iconst C 0 (by decide) dJ0_indexOf_0f7a4_2 ?_
  refine v_callVGi C (st := []) [.int x, .int 0] (c_J0_indexOf_7cf53 l G S x) ml_RJ0_633 mi_yJ0_indexOf_7cf53 rfl rfl (Nat.le_of_ble_eq_true rfl) (Nat.le_of_ble_eq_true rfl) (Nat.le_of_ble_eq_true rfl) (Nat.le_of_ble_eq_true rfl) (Nat.le_of_ble_eq_true rfl) dJ0_indexOf_0f7a4_3 (fun r u h => ?_) _ rfl
  obtain ⟨rfl, hr9⟩ := h
  exact v_iret C hRT (Nat.le_of_ble_eq_true rfl) (Nat.le_of_ble_eq_true rfl) dJ0_indexOf_0f7a4_6 ⟨_, rfl, rfl, hr9⟩
set_option maxRecDepth 100000 in
set_option maxHeartbeats 4000000 in
theorem c_X4_countOf (l : Launch) (hlf : l.stackTraces = false) (S : HS) (ad : AD) (q : AS) (hB : BI q) (hA : XA S ad (cn q 1)) (hV : XV S ad q) (x : Int32) : cX l yX4_countOf cX4_countOf 2 (Option.some Jvm.ClassFile.FieldType.int) 10 [.ref (ad 0 0), .int x] S (pI fun r u => isSgn x ∧ S = u ∧ nI (sgc q x (cn q 1)) = r) (fun E u => E = eIA ∧ S = u ∧ ¬ isSgn x) 1 6 := by
  refine cX_intro (by decide +kernel) cd_X4_countOf (Nat.le_of_ble_eq_true rfl) ?_
  intro pP eE sS mM aA bB tT cC G A C hRT hnt
  refine V.lvs (lv2 := [(0, .ref (ad 0 0)), (1, .int x)]) rfl ?_
  refine v_ldcSW C (index := 320) (tx := "nhxlmg") (by decide +kernel) rfl dX4_countOf_0 ?_
  refine v_iload_n C 1 rfl rfl dX4_countOf_3 ?_
  refine v_callVGi C (st := []) [.int x] (c_J0_indexOf_0f7a4 l G S x) ml_RX4_322 mi_yJ0_indexOf_0f7a4 rfl rfl (Nat.le_of_ble_eq_true rfl) (Nat.le_of_ble_eq_true rfl) (Nat.le_of_ble_eq_true rfl) (Nat.le_of_ble_eq_true rfl) (Nat.le_of_ble_eq_true rfl) dX4_countOf_4 (fun r u h => ?_) _ rfl
  obtain ⟨rfl, hr9⟩ := h
  refine v_if_lt C 14 (by decide) dX4_countOf_7 (fun c7 => ?_) (fun c7 => ?_)
  · have hns : ¬ isSgn x := by rcases hr9 with z | z; exact absurd c7 z.2; exact z.1
    refine v_iconst C 0 (by decide) dX4_countOf_14 ?_
    refine v_xcallSv C (st := []) [.int 0] (c_X4_refuseUnless l hlf S 0) ml_RX4_60 ms_yX4_refuseUnless rfl (Nat.le_of_ble_eq_true rfl) (Nat.le_of_ble_eq_true rfl) (Nat.le_of_ble_eq_true rfl) (Nat.le_of_ble_eq_true rfl) (Nat.le_of_ble_eq_true rfl) dX4_countOf_15 (fun E u h => ?_) (fun u h => ?_) _ rfl
    · obtain ⟨rfl, rfl, hx⟩ := h
      exact vx_end C hnt (Nat.le_of_ble_eq_true rfl) (Nat.le_of_ble_eq_true rfl) ⟨rfl, rfl, hns⟩
    exact absurd rfl h.2
  · have hys : isSgn x := by rcases hr9 with z | z; exact z.1; exact absurd z.2 c7
    refine v_iconst C 1 (by decide) dX4_countOf_10 ?_
    refine v_goto C 15 (by decide) dX4_countOf_11 ?_
    refine v_xcallSv C (st := []) [.int 1] (c_X4_refuseUnless l hlf S 1) ml_RX4_60 ms_yX4_refuseUnless rfl (Nat.le_of_ble_eq_true rfl) (Nat.le_of_ble_eq_true rfl) (Nat.le_of_ble_eq_true rfl) (Nat.le_of_ble_eq_true rfl) (Nat.le_of_ble_eq_true rfl) dX4_countOf_15 (fun E u h => ?_) (fun u h => ?_) _ rfl
    · exact absurd h.2.2 (by decide)
    obtain ⟨rfl, hok⟩ := h
    refine v_aload_n C 0 rfl rfl dX4_countOf_18 ?_
    refine v_iload_n C 1 rfl rfl dX4_countOf_19 ?_
    refine v_callVi C (st := []) [.int x] (c_X4_countSigns l S ad q x hA hV hB) ml_RX4_327 mi_yX4_countSigns hA.k0 (by decide) (by decide +kernel) rfl (Nat.le_of_ble_eq_true rfl) (Nat.le_of_ble_eq_true rfl) (Nat.le_of_ble_eq_true rfl) (Nat.le_of_ble_eq_true rfl) (Nat.le_of_ble_eq_true rfl) dX4_countOf_20 (fun r u h => ?_) _ rfl
    obtain ⟨rfl, rfl⟩ := h
    exact v_xiret C hRT (Nat.le_of_ble_eq_true rfl) (Nat.le_of_ble_eq_true rfl) dX4_countOf_23 ⟨_, rfl, hys, rfl, rfl⟩
