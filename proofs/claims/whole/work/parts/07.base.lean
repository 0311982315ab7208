/-! base: a heap state in functions of addresses; worlds; the walk V over them -/
abbrev HS : Type := (Nat → Nat) × (Nat → Nat → Int32) × (Nat → Nat → Int64) × (Nat → Nat → Option Nat) × (Nat → Nat) × (Nat → Nat → Int32) × (Nat → Nat → Int64) × (Nat → Nat → Option Nat) × (Nat → Nat → UInt64)
def hK (S : HS) (a : Nat) : Nat := S.1 a
def hI (S : HS) (f a : Nat) : Int32 := S.2.1 f a
def hJ (S : HS) (f a : Nat) : Int64 := S.2.2.1 f a
def hR (S : HS) (f a : Nat) : Option Nat := S.2.2.2.1 f a
def hN (S : HS) (a : Nat) : Nat := S.2.2.2.2.1 a
def aI (S : HS) (a j : Nat) : Int32 := S.2.2.2.2.2.1 a j
def aJ (S : HS) (a j : Nat) : Int64 := S.2.2.2.2.2.2.1 a j
def aR (S : HS) (a j : Nat) : Option Nat := S.2.2.2.2.2.2.2.1 a j
def aD (S : HS) (a j : Nat) : UInt64 := S.2.2.2.2.2.2.2.2 a j
def u2 {α : Type} (g : Nat → Nat → α) (f a : Nat) (v : α) : Nat → Nat → α := fun f' a' => if f' = f ∧ a' = a then v else g f' a'
def ur {α : Type} (g : Nat → Nat → α) (a : Nat) (r : Nat → α) : Nat → Nat → α := fun a' j => if a' = a then r j else g a' j
def uz {α : Type} (g : Nat → Nat → α) (a : Nat) (v : α) : Nat → Nat → α := fun f' a' => if a' = a then v else g f' a'
def sI (S : HS) (f a : Nat) (v : Int32) : HS := (S.1, u2 S.2.1 f a v, S.2.2)
def sJ (S : HS) (f a : Nat) (v : Int64) : HS := (S.1, S.2.1, u2 S.2.2.1 f a v, S.2.2.2)
def sR (S : HS) (f a : Nat) (v : Option Nat) : HS := (S.1, S.2.1, S.2.2.1, u2 S.2.2.2.1 f a v, S.2.2.2.2)
def tI (S : HS) (a j : Nat) (v : Int32) : HS := (S.1, S.2.1, S.2.2.1, S.2.2.2.1, S.2.2.2.2.1, u2 S.2.2.2.2.2.1 a j v, S.2.2.2.2.2.2)
def tJ (S : HS) (a j : Nat) (v : Int64) : HS := (S.1, S.2.1, S.2.2.1, S.2.2.2.1, S.2.2.2.2.1, S.2.2.2.2.2.1, u2 S.2.2.2.2.2.2.1 a j v, S.2.2.2.2.2.2.2)
def tR (S : HS) (a j : Nat) (v : Option Nat) : HS := (S.1, S.2.1, S.2.2.1, S.2.2.2.1, S.2.2.2.2.1, S.2.2.2.2.2.1, S.2.2.2.2.2.2.1, u2 S.2.2.2.2.2.2.2.1 a j v, S.2.2.2.2.2.2.2.2)
def tD (S : HS) (a j : Nat) (v : UInt64) : HS := (S.1, S.2.1, S.2.2.1, S.2.2.2.1, S.2.2.2.2.1, S.2.2.2.2.2.1, S.2.2.2.2.2.2.1, S.2.2.2.2.2.2.2.1, u2 S.2.2.2.2.2.2.2.2 a j v)
/-- a whole int row -/
def rI (S : HS) (a : Nat) (r : Nat → Int32) : HS := (S.1, S.2.1, S.2.2.1, S.2.2.2.1, S.2.2.2.2.1, ur S.2.2.2.2.2.1 a r, S.2.2.2.2.2.2)
def nO (S : HS) (a kd : Nat) : HS := (va_up S.1 a kd, uz S.2.1 a 0, uz S.2.2.1 a 0, uz S.2.2.2.1 a none, S.2.2.2.2)
def nA (S : HS) (a kd n : Nat) : HS := (va_up S.1 a kd, S.2.1, S.2.2.1, S.2.2.2.1, va_up S.2.2.2.2.1 a n, ur S.2.2.2.2.2.1 a (fun _ => 0), ur S.2.2.2.2.2.2.1 a (fun _ => 0), ur S.2.2.2.2.2.2.2.1 a (fun _ => none), ur S.2.2.2.2.2.2.2.2 a (fun _ => 0))
def hs0 : HS := (fun _ => 0, fun _ _ => 0, fun _ _ => 0, fun _ _ => none, fun _ => 0, fun _ _ => 0, fun _ _ => 0, fun _ _ => none, fun _ _ => 0)
def fds : Nat → List (Nat × Nat)
  | 1 => [(0, 0), (0, 1), (0, 2), (0, 3), (0, 4)]
  | 2 => [(0, 5), (0, 6), (2, 7), (2, 8), (1, 9), (2, 10), (2, 11), (1, 12)]
  | 3 => [(0, 13), (0, 14), (0, 15)]
  | 4 => [(0, 16), (0, 17), (0, 18), (0, 19), (0, 20), (0, 21), (0, 22), (0, 23), (0, 24), (0, 25), (2, 26), (0, 27)]
  | 5 => [(2, 28), (2, 29), (0, 30), (2, 31), (0, 32), (2, 33), (0, 34), (0, 35), (0, 36), (0, 37), (0, 38), (0, 39), (0, 40)]
  | 6 => [(2, 41), (2, 42), (2, 43), (0, 44), (2, 45), (2, 46), (2, 47), (2, 48), (2, 49), (0, 50), (0, 51), (0, 52), (0, 53), (0, 54), (0, 55), (0, 56), (0, 57), (2, 58), (2, 59), (1, 60), (0, 61), (2, 62)]
  | _ => []
def fv (S : HS) (a : Nat) (q : Nat × Nat) : Value := if q.1 = 0 then .int (hI S q.2 a) else if q.1 = 1 then .long (hJ S q.2 a) else va_rf (hR S q.2 a)
/-- the numbers of the tables: classes and slots; array classes; the constant texts' cells -/
abbrev GT : Type := va_G × (Nat → ClassId) × (Nat → Nat)
def cA (S : HS) (a : Nat) : vp_A := (hN S a, if hK S a < 12 then .inl (aI S a) else if hK S a = 12 then .inr (.inl (aJ S a)) else if hK S a = 18 then .inr (.inr (.inr (.inl (aD S a)))) else .inr (.inr (.inr (.inr (aR S a)))))
def cE (G : GT) (S : HS) (a : Nat) : Option va_E := if hK S a = 0 then none else if hK S a < 7 then some (.inr (hK S a + 1, (fds (hK S a)).map (fv S a))) else some (.inl (G.2.1 (hK S a), cA S a))
def wL (ws : va_W) (F : Nat → Option va_E) : Prop := ∀ (b : Nat) (e : va_E), F b = some e ↔ ∃ j : Nat, ws[j]? = some (b, e)
def Wd (G : GT) (A : Nat → Prop) (S : HS) (H : Heap) : Prop := ∃ ws : va_W, va_P G.1 vwCl ws H ∧ va_D A ws ∧ wL ws (cE G S)
def tysG (G : GT) : List (ClassId × FieldType) := [(G.2.1 10, .int), (G.2.1 11, .char), (G.2.1 12, .long), (G.2.1 13, .object RX0), (G.2.1 14, .object RX2), (G.2.1 15, .object RX3), (G.2.1 16, .array .long), (G.2.1 17, .array .char), (G.2.1 18, .double)]
def tyA : Nat → FieldType
  | 10 => .int
  | 11 => .char
  | 12 => .long
  | 13 => .object RX0
  | 14 => .object RX2
  | 15 => .object RX3
  | 16 => .array .long
  | 17 => .array .char
  | _ => .double
def gK (G : GT) (U : State) : Prop := va_K G.1 vwCl (tysG G) U ∧ ∃ kA : Class, U.vm.classes[G.2.1 17]? = some kA ∧ kA.kind = .array (G.2.1 11) (.array .char)
theorem gK.moved {G : GT} {u U : State} (hvm : u.vm.Alike U.vm) (h : gK G u) : gK G U := by
  obtain ⟨h1, kA, h2, h3⟩ := h
  obtain ⟨k', hk', he⟩ := hvm.2.2 _ _ h2
  exact ⟨va_K.moved hvm h1, k', hk', by rw [he]; exact h3⟩
theorem gK_ty {G : GT} {kd : Nat} (h1 : 10 ≤ kd) (h2 : kd ≤ 18) : (tysG G)[kd - 10]? = some (G.2.1 kd, tyA kd) := by
  have hc : kd = 10 ∨ kd = 11 ∨ kd = 12 ∨ kd = 13 ∨ kd = 14 ∨ kd = 15 ∨ kd = 16 ∨ kd = 17 ∨ kd = 18 := by omega
  rcases hc with rfl | rfl | rfl | rfl | rfl | rfl | rfl | rfl | rfl <;> rfl
/-- the texts of the class, where they stand -/
def strs : List (Nat × String) := [(81, "no such sensor"), (102, "the batch is full"), (109, "the batch is empty"), (164, "no such report"), (321, "not merged"), (331, "no such sign"), (345, "no track is live"), (348, "no such track"), (350, "no such live track"), (354, "no report was processed"), (359, "an argument is out of range")]
/-- words that no step changes, but that the rows' own list can't hold -/
def wfd : Cond → Bool
  | .declares _ => true
  | .castable _ _ => true
  | .methodLinkNest _ _ _ _ => true
  | _ => false
def wsF : List Cond := lw_tbl.filter wfd
def ncs : List (String × String) := [("java/lang/IllegalArgumentException", "java/lang/IndexOutOfBoundsException"), ("java/lang/IllegalStateException", "java/lang/IndexOutOfBoundsException"), ("java/lang/IllegalStateException", "java/lang/IllegalArgumentException"), ("java/util/NoSuchElementException", "java/lang/IndexOutOfBoundsException"), ("java/util/NoSuchElementException", "java/lang/IllegalArgumentException")]
theorem wsF_in {w : Cond} (i : Nat) (h : lw_tbl[i]? = some w) (hg : wfd w = true) : w ∈ wsF := List.mem_filter.mpr ⟨List.mem_of_getElem? h, hg⟩
/-- what stands outside the worlds: two statics of Throwable, the texts -/
def gE (G : GT) (A : Nat → Prop) (U : State) (H : Heap) : Prop :=
  vx_Zq Bundle.tN "UNASSIGNED_STACK" Bundle.steD A U H ∧ vx_Zq Bundle.tN "SUPPRESSED_SENTINEL" Bundle.listD A U H ∧ (∀ q ∈ strs, vk_R RX4 q.1 q.2 (G.2.2 q.1) U) ∧ (∀ w ∈ wsF, va_Nw w U) ∧ (∀ q ∈ ncs, va_Nc q.1 q.2 U)
def wsG : List Cond := lw_tbl.filter goodWord
theorem wsG_in {w : Cond} (i : Nat) (h : lw_tbl[i]? = some w) (hg : goodWord w = true) : w ∈ wsG := List.mem_filter.mpr ⟨List.mem_of_getElem? h, hg⟩
theorem wsG_good {w : Cond} (h : w ∈ wsG) : goodWord w = true := (List.mem_filter.mp h).2
theorem goodIn_G {big : List Cond} {w : Cond} (hw : w ∈ wsG) : GoodIn (big ++ wsG) (w :: wsG) := fun v hv => by
  have h : v ∈ wsG := by
    rcases List.mem_cons.mp hv with rfl | h
    · exact hw
    · exact h
  exact ⟨List.mem_append_right _ h, good_of_word (wsG_good h)⟩
def dA (S : HS) (sz : Nat) : Nat → Prop := fun q => hK S q ≠ 0 ∨ sz ≤ q
def wB (G : GT) (S : HS) (sz : Nat) (U : State) : Prop := U.heap.size = sz ∧ Wd G (dA S sz) S U.heap ∧ gK G U ∧ gE G (dA S sz) U U.heap
def wE (G : GT) (A : Nat → Prop) (u : HS) (t : State) : Prop := Wd G A u t.heap ∧ gK G t
def gQ (post : Option Value → HS → Prop) (G : GT) (A : Nat → Prop) : Array Value → State → Outcome → State → Prop := fun _ st oc t => (∃ (v : Option Value) (u : HS), oc = .returned v ∧ post v u ∧ wE G A u t) ∧ va_F A st t
def gX (px : String → HS → Prop) (G : GT) (A : Nat → Prop) : String → State → State → Prop := vx_X (fun _ : HS => True) (fun E u t => px E u ∧ wE G A u t) A
def rmD (d mc ms : Nat) : Room := { frames := d, cells := mc, slots := ms, locals := 40 * d }
/-- a contract: from the world S, with the arguments av, it returns, and what it answers and the world behind it are as 'post' says -/
def cM (l : Launch) (y : MethodName) (cc : ByteArray) (maxL : Nat) (ret : Option FieldType) (d : Nat) (av : List Value) (S : HS) (post : Option Value → HS → Prop) (mc ms : Nat) : Prop :=
  ∀ (G : GT) (sz : Nat), Met l y (.code y cc maxL ret :: wsG) (rmD d mc ms) (va_Pc av (wB G S sz)) (gQ post G (dA S sz)) mc ms (dA S sz)
/-- the same of a method that may throw: the class of what it throws, and the world then, are as 'px' says -/
def cX (l : Launch) (y : MethodName) (cc : ByteArray) (maxL : Nat) (ret : Option FieldType) (d : Nat) (av : List Value) (S : HS) (post : Option Value → HS → Prop) (px : String → HS → Prop) (mc ms : Nat) : Prop :=
  ∀ (G : GT) (sz : Nat), vx_Met l y (.code y cc maxL ret :: wsG) (rmD d mc ms) (va_Pc av (wB G S sz)) (gQ post G (dA S sz)) (gX px G (dA S sz)) mc ms (dA S sz)
def pI (f : Int32 → HS → Prop) : Option Value → HS → Prop := fun v u => ∃ r : Int32, v = some (.int r) ∧ f r u
def pL (f : Int64 → HS → Prop) : Option Value → HS → Prop := fun v u => ∃ r : Int64, v = some (.long r) ∧ f r u
def pF (f : UInt32 → HS → Prop) : Option Value → HS → Prop := fun v u => ∃ r : UInt32, v = some (.float r) ∧ f r u
def pD (f : UInt64 → HS → Prop) : Option Value → HS → Prop := fun v u => ∃ r : UInt64, v = some (.double r) ∧ f r u
def pQ (f : Option Nat → HS → Prop) : Option Value → HS → Prop := fun v u => ∃ r : Option Nat, v = some (va_rf r) ∧ f r u
def pV (f : HS → Prop) : Option Value → HS → Prop := fun v u => v = none ∧ f u
theorem wL_set {ws : va_W} {A : Nat → Prop} {F : Nat → Option va_E} (hD : va_D A ws) (h : wL ws F) {k a : Nat} {e0 e1 : va_E} (hk : ws[k]? = some (a, e0)) : wL (ws.set k (a, e1)) (fun b => if b = a then some e1 else F b) := by
  have hlt : k < ws.length := (List.getElem?_eq_some_iff.mp hk).1
  intro b e
  constructor
  · intro hb
    replace hb : (if b = a then some e1 else F b) = some e := hb
    by_cases hba : b = a
    · subst hba
      rw [if_pos rfl] at hb
      cases hb
      exact ⟨k, by rw [List.getElem?_set_self hlt]⟩
    · rw [if_neg hba] at hb
      obtain ⟨j, hj⟩ := (h b e).mp hb
      refine ⟨j, ?_⟩
      rw [List.getElem?_set_ne (fun q => ?_)]
      · exact hj
      · subst q
        rw [hk] at hj
        cases hj
        exact hba rfl
  · rintro ⟨j, hj⟩
    by_cases hjk : k = j
    · subst hjk
      rw [List.getElem?_set_self hlt] at hj
      cases hj
      exact if_pos rfl
    · rw [List.getElem?_set_ne hjk] at hj
      have hne : b ≠ a := fun q => hjk (hD.1 k j _ _ hk hj (by rw [q]))
      exact (if_neg hne).trans ((h b e).mpr ⟨j, hj⟩)
theorem wL_push {ws : va_W} {F : Nat → Option va_E} (h : wL ws F) {a : Nat} {e1 : va_E} (hn : F a = none) : wL (ws ++ [(a, e1)]) (fun b => if b = a then some e1 else F b) := by
  intro b e
  constructor
  · intro hb
    replace hb : (if b = a then some e1 else F b) = some e := hb
    by_cases hba : b = a
    · subst hba
      rw [if_pos rfl] at hb
      cases hb
      exact ⟨ws.length, by rw [List.getElem?_append_right (Nat.le_refl _)]; simp⟩
    · rw [if_neg hba] at hb
      obtain ⟨j, hj⟩ := (h b e).mp hb
      exact ⟨j, by rw [List.getElem?_append_left ((List.getElem?_eq_some_iff.mp hj).1)]; exact hj⟩
  · rintro ⟨j, hj⟩
    by_cases hlt : j < ws.length
    · rw [List.getElem?_append_left hlt] at hj
      have hFb := (h b e).mpr ⟨j, hj⟩
      have hne : b ≠ a := fun q => by rw [q, hn] at hFb; cases hFb
      exact (if_neg hne).trans hFb
    · rw [List.getElem?_append_right (Nat.not_lt.mp hlt)] at hj
      have hz : j - ws.length < 1 := (List.getElem?_eq_some_iff.mp hj).1
      rw [show j - ws.length = 0 by omega] at hj
      cases hj
      exact if_pos rfl
theorem wL_congr {ws : va_W} {F F' : Nat → Option va_E} (h : wL ws F) (he : ∀ b, F' b = F b) : wL ws F' := fun b e => by rw [he b]; exact h b e
theorem Wd.fresh {G : GT} {A : Nat → Prop} {S : HS} {H : Heap} (h : Wd G A S H) {a : Nat} (ha : H.size ≤ a) : cE G S a = none := by
  obtain ⟨ws, hP, hD, hL⟩ := h
  cases hc : cE G S a with
  | none => rfl
  | some e =>
    obtain ⟨j, hj⟩ := (hL a e).mp hc
    have := (hP j _ hj).lt
    exact absurd this (by show ¬ a < H.size; omega)
theorem cE_none {G : GT} {S : HS} {a : Nat} : cE G S a = none ↔ hK S a = 0 := by
  unfold cE
  by_cases h0 : hK S a = 0
  · simp [h0]
  · by_cases h7 : hK S a < 7 <;> simp [h0, h7]
theorem Wd.fresh0 {G : GT} {A : Nat → Prop} {S : HS} {H : Heap} (h : Wd G A S H) : hK S H.size = 0 := cE_none.mp (h.fresh (Nat.le_refl _))
theorem Wd.dom {G : GT} {A : Nat → Prop} {S : HS} {H : Heap} (h : Wd G A S H) {a : Nat} (ha : hK S a ≠ 0) : A a ∧ a < H.size := by
  obtain ⟨ws, hP, hD, hL⟩ := h
  cases hc : cE G S a with
  | none => exact absurd (cE_none.mp hc) ha
  | some e =>
    obtain ⟨j, hj⟩ := (hL a e).mp hc
    exact ⟨hD.2 j _ hj, (hP j _ hj).lt⟩
theorem Wd.weaken {G : GT} {A B : Nat → Prop} {S : HS} {H : Heap} (h : Wd G A S H) (hAB : ∀ q, hK S q ≠ 0 → B q) : Wd G B S H := by
  obtain ⟨ws, hP, hD, hL⟩ := h
  refine ⟨ws, hP, ⟨hD.1, fun k q hq => hAB q.1 (fun h0 => ?_)⟩, hL⟩
  have := (hL q.1 q.2).mpr ⟨k, hq⟩
  rw [cE_none.mpr h0] at this
  cases this
theorem Wd.kept {G : GT} {A : Nat → Prop} {S : HS} {H H1 : Heap} (h : Wd G A S H) (hq : ∀ q, hK S q ≠ 0 → H1[q]? = H[q]?) : Wd G A S H1 := by
  obtain ⟨ws, hP, hD, hL⟩ := h
  refine ⟨ws, hP.kept (fun k q hk => hq q.1 (fun h0 => ?_)), hD, hL⟩
  have := (hL q.1 q.2).mpr ⟨k, hk⟩
  rw [cE_none.mpr h0] at this
  cases this
theorem Wd.at {G : GT} {A : Nat → Prop} {S : HS} {H : Heap} (h : Wd G A S H) {a : Nat} {e : va_E} (ha : cE G S a = some e) : va_at G.1 vwCl (a, e) H := by
  obtain ⟨ws, hP, hD, hL⟩ := h
  obtain ⟨j, hj⟩ := (hL a e).mp ha
  exact hP j _ hj
theorem cE_obj {G : GT} {S : HS} {a kd : Nat} (h : hK S a = kd) (h0 : 0 < kd) (h7 : kd < 7) : cE G S a = some (.inr (kd + 1, (fds kd).map (fv S a))) := by
  unfold cE
  rw [h, if_neg (by omega), if_pos h7]
theorem cE_arr {G : GT} {S : HS} {a kd : Nat} (h : hK S a = kd) (h7 : 10 ≤ kd) : cE G S a = some (.inl (G.2.1 kd, cA S a)) := by
  unfold cE
  rw [h, if_neg (by omega), if_neg (by omega)]
theorem fds_nd : ∀ kd, kd < 7 → ∀ i, i < 30 → ∀ j, j < 30 → ∀ p, (fds kd)[i]? = some p → ∀ q, (fds kd)[j]? = some q → p.2 = q.2 → i = j := by
  intro kd hkd i hi j hj p hp q hq h
  have hnd : ((fds kd).map Prod.snd).Nodup := by
    have hc : kd = 0 ∨ kd = 1 ∨ kd = 2 ∨ kd = 3 ∨ kd = 4 ∨ kd = 5 ∨ kd = 6 := by omega
    rcases hc with rfl | rfl | rfl | rfl | rfl | rfl | rfl <;> decide
  have h1 : ((fds kd).map Prod.snd)[i]? = some p.2 := by rw [List.getElem?_map, hp]; rfl
  have h2 : ((fds kd).map Prod.snd)[j]? = some q.2 := by rw [List.getElem?_map, hq]; rfl
  rw [← h] at h2
  obtain ⟨li, ei⟩ := List.getElem?_eq_some_iff.mp h1
  obtain ⟨lj, ej⟩ := List.getElem?_eq_some_iff.mp h2
  have hpw := List.pairwise_iff_getElem.mp hnd
  rcases Nat.lt_trichotomy i j with h9 | h9 | h9
  · exact absurd (ei.trans ej.symm) (hpw i j li lj h9)
  · exact h9
  · exact absurd (ej.trans ei.symm) (hpw j i lj li h9)
theorem fds_len (kd : Nat) : (fds kd).length ≤ 22 := by
  unfold fds
  split <;> decide
theorem cE_sI {G : GT} {S : HS} {a kd j f : Nat} {v : Int32} (h : hK S a = kd) (h0 : 0 < kd) (h7 : kd < 7) (hj : (fds kd)[j]? = some (0, f)) (b : Nat) :
    cE G (sI S f a v) b = if b = a then some (.inr (kd + 1, ((fds kd).map (fv S a)).set j (.int v))) else cE G S b := by
  have hKs : ∀ q, hK (sI S f a v) q = hK S q := fun _ => rfl
  by_cases hb : b = a
  · subst hb
    rw [if_pos rfl, cE_obj ((hKs b).trans h) h0 h7]
    congr 3
    apply List.ext_getElem?
    intro i
    have hjl : j < (fds kd).length := (List.getElem?_eq_some_iff.mp hj).1
    by_cases hij : j = i
    · subst hij
      rw [List.getElem?_set_self (by simpa using hjl), List.getElem?_map, hj]
      simp [fv, sI, hI, u2]
    · rw [List.getElem?_set_ne hij, List.getElem?_map, List.getElem?_map]
      cases hi : (fds kd)[i]? with
      | none => rfl
      | some q =>
        have hil : i < (fds kd).length := (List.getElem?_eq_some_iff.mp hi).1
        have hne : q.2 ≠ f := fun e => hij (fds_nd kd h7 j (by have := fds_len kd; omega) i (by have := fds_len kd; omega) _ hj _ hi e.symm)
        simp [fv, sI, hI, hI, hJ, hR, u2, hne]
  · rw [if_neg hb]
    have hf : ∀ q, fv (sI S f a v) b q = fv S b q := fun q => by simp [fv, sI, hI, hJ, hR, u2, hb]
    unfold cE
    rw [hKs b]
    by_cases z0 : hK S b = 0
    · rw [if_pos z0, if_pos z0]
    · rw [if_neg z0, if_neg z0]
      by_cases z7 : hK S b < 7
      · rw [if_pos z7, if_pos z7]
        congr 3
        exact List.map_congr_left (fun q _ => hf q)
      · rw [if_neg z7, if_neg z7]
        rfl
theorem cE_sJ {G : GT} {S : HS} {a kd j f : Nat} {v : Int64} (h : hK S a = kd) (h0 : 0 < kd) (h7 : kd < 7) (hj : (fds kd)[j]? = some (1, f)) (b : Nat) :
    cE G (sJ S f a v) b = if b = a then some (.inr (kd + 1, ((fds kd).map (fv S a)).set j (.long v))) else cE G S b := by
  have hKs : ∀ q, hK (sJ S f a v) q = hK S q := fun _ => rfl
  by_cases hb : b = a
  · subst hb
    rw [if_pos rfl, cE_obj ((hKs b).trans h) h0 h7]
    congr 3
    apply List.ext_getElem?
    intro i
    have hjl : j < (fds kd).length := (List.getElem?_eq_some_iff.mp hj).1
    by_cases hij : j = i
    · subst hij
      rw [List.getElem?_set_self (by simpa using hjl), List.getElem?_map, hj]
      simp [fv, sJ, hJ, u2]
    · rw [List.getElem?_set_ne hij, List.getElem?_map, List.getElem?_map]
      cases hi : (fds kd)[i]? with
      | none => rfl
      | some q =>
        have hil : i < (fds kd).length := (List.getElem?_eq_some_iff.mp hi).1
        have hne : q.2 ≠ f := fun e => hij (fds_nd kd h7 j (by have := fds_len kd; omega) i (by have := fds_len kd; omega) _ hj _ hi e.symm)
        simp [fv, sJ, hJ, hI, hJ, hR, u2, hne]
  · rw [if_neg hb]
    have hf : ∀ q, fv (sJ S f a v) b q = fv S b q := fun q => by simp [fv, sJ, hI, hJ, hR, u2, hb]
    unfold cE
    rw [hKs b]
    by_cases z0 : hK S b = 0
    · rw [if_pos z0, if_pos z0]
    · rw [if_neg z0, if_neg z0]
      by_cases z7 : hK S b < 7
      · rw [if_pos z7, if_pos z7]
        congr 3
        exact List.map_congr_left (fun q _ => hf q)
      · rw [if_neg z7, if_neg z7]
        rfl
theorem cE_sR {G : GT} {S : HS} {a kd j f : Nat} {v : Option Nat} (h : hK S a = kd) (h0 : 0 < kd) (h7 : kd < 7) (hj : (fds kd)[j]? = some (2, f)) (b : Nat) :
    cE G (sR S f a v) b = if b = a then some (.inr (kd + 1, ((fds kd).map (fv S a)).set j (va_rf v))) else cE G S b := by
  have hKs : ∀ q, hK (sR S f a v) q = hK S q := fun _ => rfl
  by_cases hb : b = a
  · subst hb
    rw [if_pos rfl, cE_obj ((hKs b).trans h) h0 h7]
    congr 3
    apply List.ext_getElem?
    intro i
    have hjl : j < (fds kd).length := (List.getElem?_eq_some_iff.mp hj).1
    by_cases hij : j = i
    · subst hij
      rw [List.getElem?_set_self (by simpa using hjl), List.getElem?_map, hj]
      simp [fv, sR, hR, u2]
    · rw [List.getElem?_set_ne hij, List.getElem?_map, List.getElem?_map]
      cases hi : (fds kd)[i]? with
      | none => rfl
      | some q =>
        have hil : i < (fds kd).length := (List.getElem?_eq_some_iff.mp hi).1
        have hne : q.2 ≠ f := fun e => hij (fds_nd kd h7 j (by have := fds_len kd; omega) i (by have := fds_len kd; omega) _ hj _ hi e.symm)
        simp [fv, sR, hR, hI, hJ, hR, u2, hne]
  · rw [if_neg hb]
    have hf : ∀ q, fv (sR S f a v) b q = fv S b q := fun q => by simp [fv, sR, hI, hJ, hR, u2, hb]
    unfold cE
    rw [hKs b]
    by_cases z0 : hK S b = 0
    · rw [if_pos z0, if_pos z0]
    · rw [if_neg z0, if_neg z0]
      by_cases z7 : hK S b < 7
      · rw [if_pos z7, if_pos z7]
        congr 3
        exact List.map_congr_left (fun q _ => hf q)
      · rw [if_neg z7, if_neg z7]
        rfl
theorem cE_tI {G : GT} {S : HS} {a j : Nat} {v : Int32} (h : 10 ≤ hK S a ∧ hK S a < 12) (b : Nat) : cE G (tI S a j v) b = if b = a then some (.inl (G.2.1 (hK S a), cA (tI S a j v) a)) else cE G S b := by
  have hKs : ∀ q, hK (tI S a j v) q = hK S q := fun _ => rfl
  by_cases hb : b = a
  · subst hb
    rw [if_pos rfl]
    exact cE_arr (hKs b) (by omega)
  · rw [if_neg hb]
    have hf : ∀ q, fv (tI S a j v) b q = fv S b q := fun q => rfl
    have hc : cA (tI S a j v) b = cA S b := by
      have e1 : hN (tI S a j v) b = hN S b := rfl
      have e2 : aI (tI S a j v) b = aI S b := by funext z; simp [aI, tI, u2, hb]
      have e3 : aJ (tI S a j v) b = aJ S b := by funext z; simp [aJ, tI, u2, hb]
      have e4 : aR (tI S a j v) b = aR S b := by funext z; simp [aR, tI, u2, hb]
      have e5 : aD (tI S a j v) b = aD S b := by funext z; simp [aD, tI, u2, hb]
      unfold cA
      rw [hKs, e1, e2, e3, e4, e5]
    unfold cE
    rw [hKs b, hc]
    rfl
theorem cE_tJ {G : GT} {S : HS} {a j : Nat} {v : Int64} (h : hK S a = 12) (b : Nat) : cE G (tJ S a j v) b = if b = a then some (.inl (G.2.1 (hK S a), cA (tJ S a j v) a)) else cE G S b := by
  have hKs : ∀ q, hK (tJ S a j v) q = hK S q := fun _ => rfl
  by_cases hb : b = a
  · subst hb
    rw [if_pos rfl]
    exact cE_arr (hKs b) (by omega)
  · rw [if_neg hb]
    have hf : ∀ q, fv (tJ S a j v) b q = fv S b q := fun q => rfl
    have hc : cA (tJ S a j v) b = cA S b := by
      have e1 : hN (tJ S a j v) b = hN S b := rfl
      have e2 : aI (tJ S a j v) b = aI S b := by funext z; simp [aI, tJ, u2, hb]
      have e3 : aJ (tJ S a j v) b = aJ S b := by funext z; simp [aJ, tJ, u2, hb]
      have e4 : aR (tJ S a j v) b = aR S b := by funext z; simp [aR, tJ, u2, hb]
      have e5 : aD (tJ S a j v) b = aD S b := by funext z; simp [aD, tJ, u2, hb]
      unfold cA
      rw [hKs, e1, e2, e3, e4, e5]
    unfold cE
    rw [hKs b, hc]
    rfl
theorem cE_tR {G : GT} {S : HS} {a j : Nat} {v : Option Nat} (h : 12 < hK S a ∧ hK S a < 18) (b : Nat) : cE G (tR S a j v) b = if b = a then some (.inl (G.2.1 (hK S a), cA (tR S a j v) a)) else cE G S b := by
  have hKs : ∀ q, hK (tR S a j v) q = hK S q := fun _ => rfl
  by_cases hb : b = a
  · subst hb
    rw [if_pos rfl]
    exact cE_arr (hKs b) (by omega)
  · rw [if_neg hb]
    have hf : ∀ q, fv (tR S a j v) b q = fv S b q := fun q => rfl
    have hc : cA (tR S a j v) b = cA S b := by
      have e1 : hN (tR S a j v) b = hN S b := rfl
      have e2 : aI (tR S a j v) b = aI S b := by funext z; simp [aI, tR, u2, hb]
      have e3 : aJ (tR S a j v) b = aJ S b := by funext z; simp [aJ, tR, u2, hb]
      have e4 : aR (tR S a j v) b = aR S b := by funext z; simp [aR, tR, u2, hb]
      have e5 : aD (tR S a j v) b = aD S b := by funext z; simp [aD, tR, u2, hb]
      unfold cA
      rw [hKs, e1, e2, e3, e4, e5]
    unfold cE
    rw [hKs b, hc]
    rfl
theorem cE_tD {G : GT} {S : HS} {a j : Nat} {v : UInt64} (h : hK S a = 18) (b : Nat) : cE G (tD S a j v) b = if b = a then some (.inl (G.2.1 (hK S a), cA (tD S a j v) a)) else cE G S b := by
  have hKs : ∀ q, hK (tD S a j v) q = hK S q := fun _ => rfl
  by_cases hb : b = a
  · subst hb
    rw [if_pos rfl]
    exact cE_arr (hKs b) (by omega)
  · rw [if_neg hb]
    have hf : ∀ q, fv (tD S a j v) b q = fv S b q := fun q => rfl
    have hc : cA (tD S a j v) b = cA S b := by
      have e1 : hN (tD S a j v) b = hN S b := rfl
      have e2 : aI (tD S a j v) b = aI S b := by funext z; simp [aI, tD, u2, hb]
      have e3 : aJ (tD S a j v) b = aJ S b := by funext z; simp [aJ, tD, u2, hb]
      have e4 : aR (tD S a j v) b = aR S b := by funext z; simp [aR, tD, u2, hb]
      have e5 : aD (tD S a j v) b = aD S b := by funext z; simp [aD, tD, u2, hb]
      unfold cA
      rw [hKs, e1, e2, e3, e4, e5]
    unfold cE
    rw [hKs b, hc]
    rfl
theorem cE_rI {G : GT} {S : HS} {a : Nat} {r : Nat → Int32} (h : 10 ≤ hK S a ∧ hK S a < 12) (b : Nat) : cE G (rI S a r) b = if b = a then some (.inl (G.2.1 (hK S a), hN S a, .inl r)) else cE G S b := by
  have hKs : ∀ q, hK (rI S a r) q = hK S q := fun _ => rfl
  by_cases hb : b = a
  · subst hb
    rw [if_pos rfl, cE_arr (hKs b) (by omega)]
    have : cA (rI S b r) b = (hN S b, .inl r) := by
      unfold cA
      rw [hKs b, if_pos h.2]
      have e : aI (rI S b r) b = r := by funext z; simp [aI, rI, ur]
      rw [e]
      rfl
    rw [this]
  · rw [if_neg hb]
    have hc : cA (rI S a r) b = cA S b := by
      have e : aI (rI S a r) b = aI S b := by funext z; simp [aI, rI, ur, hb]
      unfold cA
      rw [hKs b, e]
      rfl
    unfold cE
    rw [hKs b, hc]
    rfl
theorem cE_nO {G : GT} {S : HS} {a kd : Nat} (h0 : 0 < kd) (h7 : kd < 7) (b : Nat) : cE G (nO S a kd) b = if b = a then some (.inr (kd + 1, (fds kd).map (fun q => if q.1 = 0 then .int 0 else if q.1 = 1 then .long 0 else .null))) else cE G S b := by
  by_cases hb : b = a
  · subst hb
    have hKs : hK (nO S b kd) b = kd := by simp [hK, nO, va_up]
    rw [if_pos rfl, cE_obj hKs h0 h7]
    congr 3
    apply List.map_congr_left
    intro q _
    simp [fv, nO, hI, hJ, hR, uz, va_rf]
  · have hKs : hK (nO S a kd) b = hK S b := by simp [hK, nO, va_up, hb]
    have hf : ∀ q, fv (nO S a kd) b q = fv S b q := fun q => by simp [fv, nO, hI, hJ, hR, uz, hb]
    have hc : cA (nO S a kd) b = cA S b := by unfold cA; rw [hKs]; rfl
    rw [if_neg hb]
    unfold cE
    rw [hKs, hc]
    by_cases z0 : hK S b = 0
    · rw [if_pos z0, if_pos z0]
    · rw [if_neg z0, if_neg z0]
      by_cases z7 : hK S b < 7
      · rw [if_pos z7, if_pos z7]
        congr 3
        exact List.map_congr_left (fun q _ => hf q)
      · rw [if_neg z7, if_neg z7]
def cA0 (kd n : Nat) : vp_A := (n, if kd < 12 then .inl (fun _ => 0) else if kd = 12 then .inr (.inl (fun _ => 0)) else if kd = 18 then .inr (.inr (.inr (.inl (fun _ => 0)))) else .inr (.inr (.inr (.inr (fun _ => none)))))
theorem cE_nA {G : GT} {S : HS} {a kd n : Nat} (h0 : 10 ≤ kd) (b : Nat) : cE G (nA S a kd n) b = if b = a then some (.inl (G.2.1 kd, cA0 kd n)) else cE G S b := by
  by_cases hb : b = a
  · subst hb
    have hKs : hK (nA S b kd n) b = kd := by simp [hK, nA, va_up]
    rw [if_pos rfl, cE_arr hKs h0]
    congr 3
    unfold cA cA0
    rw [hKs]
    have e1 : hN (nA S b kd n) b = n := by simp [hN, nA, va_up]
    have e2 : aI (nA S b kd n) b = fun _ => 0 := by funext z; simp [aI, nA, ur]
    have e3 : aJ (nA S b kd n) b = fun _ => 0 := by funext z; simp [aJ, nA, ur]
    have e4 : aR (nA S b kd n) b = fun _ => none := by funext z; simp [aR, nA, ur]
    have e5 : aD (nA S b kd n) b = fun _ => 0 := by funext z; simp [aD, nA, ur]
    rw [e1, e2, e3, e4, e5]
  · have hKs : hK (nA S a kd n) b = hK S b := by simp [hK, nA, va_up, hb]
    have hf : ∀ q, fv (nA S a kd n) b q = fv S b q := fun q => rfl
    have hc : cA (nA S a kd n) b = cA S b := by
      have e1 : hN (nA S a kd n) b = hN S b := by simp [hN, nA, va_up, hb]
      have e2 : aI (nA S a kd n) b = aI S b := by funext z; simp [aI, nA, ur, hb]
      have e3 : aJ (nA S a kd n) b = aJ S b := by funext z; simp [aJ, nA, ur, hb]
      have e4 : aR (nA S a kd n) b = aR S b := by funext z; simp [aR, nA, ur, hb]
      have e5 : aD (nA S a kd n) b = aD S b := by funext z; simp [aD, nA, ur, hb]
      unfold cA
      rw [hKs, e1, e2, e3, e4, e5]
    rw [if_neg hb]
    unfold cE
    rw [hKs, hc]
    rfl
