/-! framing: a contract of one object's cells serves in a world that holds more -/
def Inn (x w : HS) : Prop := ∀ a, hK x a ≠ 0 → hK w a = hK x a ∧ hN w a = hN x a ∧ (∀ f, hR w f a = hR x f a) ∧ (∀ f, hI w f a = hI x f a) ∧ (∀ f, hJ w f a = hJ x f a) ∧ aI w a = aI x a ∧ aR w a = aR x a ∧ aJ w a = aJ x a ∧ aD w a = aD x a
theorem Inn.rf {x : HS} : Inn x x := fun _ _ => ⟨rfl, rfl, fun _ => rfl, fun _ => rfl, fun _ => rfl, rfl, rfl, rfl, rfl⟩
/-- nothing that the rest of w holds is among u's -/
def Cov (S1 u w : HS) : Prop := ∀ a, hK w a ≠ 0 → hK S1 a = 0 → hK u a = 0
/-- the world w, where u now stands for S1 -/
def fr (S1 u w : HS) : HS := (fun a => if hK u a ≠ 0 then hK u a else if hK S1 a = 0 then hK w a else 0, fun f a => if hK u a ≠ 0 then hI u f a else hI w f a, fun f a => if hK u a ≠ 0 then hJ u f a else hJ w f a, fun f a => if hK u a ≠ 0 then hR u f a else hR w f a, fun a => if hK u a ≠ 0 then hN u a else hN w a, fun a => if hK u a ≠ 0 then aI u a else aI w a, fun a => if hK u a ≠ 0 then aJ u a else aJ w a, fun a => if hK u a ≠ 0 then aR u a else aR w a, fun a => if hK u a ≠ 0 then aD u a else aD w a)
theorem fr_in {S1 u w : HS} : Inn u (fr S1 u w) := fun a ha => ⟨if_pos ha, if_pos ha, fun _ => if_pos ha, fun _ => if_pos ha, fun _ => if_pos ha, if_pos ha, if_pos ha, if_pos ha, if_pos ha⟩
theorem fr_out {S1 u w : HS} {a : Nat} (h1 : hK S1 a = 0) (hu : hK u a = 0) : hK (fr S1 u w) a = hK w a ∧ hN (fr S1 u w) a = hN w a ∧ (∀ f, hR (fr S1 u w) f a = hR w f a) ∧ (∀ f, hI (fr S1 u w) f a = hI w f a) ∧ (∀ f, hJ (fr S1 u w) f a = hJ w f a) ∧ aI (fr S1 u w) a = aI w a ∧ aR (fr S1 u w) a = aR w a ∧ aJ (fr S1 u w) a = aJ w a ∧ aD (fr S1 u w) a = aD w a := by
  have hn : ¬ hK u a ≠ 0 := fun h => h hu
  exact ⟨(if_neg hn).trans (if_pos h1), if_neg hn, fun _ => if_neg hn, fun _ => if_neg hn, fun _ => if_neg hn, if_neg hn, if_neg hn, if_neg hn, if_neg hn⟩
theorem Inn.frm {S1 S2 u w : HS} (h : Inn S2 w) (hd : ∀ a, hK S2 a ≠ 0 → hK S1 a = 0) (c : Cov S1 u w) : Inn S2 (fr S1 u w) := fun a ha => by
  obtain ⟨p1, p2, p3, p4, p5, p6, p7, p8, p9⟩ := h a ha
  obtain ⟨q1, q2, q3, q4, q5, q6, q7, q8, q9⟩ := fr_out (w := w) (hd a ha) (c a (by rw [p1]; exact ha) (hd a ha))
  exact ⟨q1.trans p1, q2.trans p2, fun f => (q3 f).trans (p3 f), fun f => (q4 f).trans (p4 f), fun f => (q5 f).trans (p5 f), q6.trans p6, q7.trans p7, q8.trans p8, q9.trans p9⟩
theorem fr_self {S w : HS} (h : Inn S w) : fr S S w = w := by
  have hk : ∀ {α : Type} (P : Nat → Prop) [∀ a, Decidable (P a)] (f g : Nat → α), (∀ a, P a → f a = g a) → (fun a => if P a then f a else g a) = g := fun P _ f g h => funext fun a => by
    by_cases hp : P a
    · exact (if_pos hp).trans (h a hp)
    · exact if_neg hp
  unfold fr
  refine Prod.ext ?_ (Prod.ext ?_ (Prod.ext ?_ (Prod.ext ?_ (Prod.ext ?_ (Prod.ext ?_ (Prod.ext ?_ (Prod.ext ?_ ?_)))))))
  · funext a
    show (if hK S a ≠ 0 then hK S a else if hK S a = 0 then hK w a else 0) = hK w a
    by_cases ha : hK S a = 0
    · rw [if_neg (fun h => h ha), if_pos ha]
    · rw [if_pos ha]; exact ((h a ha).1).symm
  · funext f a
    show (if hK S a ≠ 0 then hI S f a else hI w f a) = hI w f a
    by_cases ha : hK S a = 0
    · rw [if_neg (fun h => h ha)]
    · rw [if_pos ha]; exact ((h a ha).2.2.2.1 f).symm
  · funext f a
    show (if hK S a ≠ 0 then hJ S f a else hJ w f a) = hJ w f a
    by_cases ha : hK S a = 0
    · rw [if_neg (fun h => h ha)]
    · rw [if_pos ha]; exact ((h a ha).2.2.2.2.1 f).symm
  · funext f a
    show (if hK S a ≠ 0 then hR S f a else hR w f a) = hR w f a
    by_cases ha : hK S a = 0
    · rw [if_neg (fun h => h ha)]
    · rw [if_pos ha]; exact ((h a ha).2.2.1 f).symm
  · funext a
    show (if hK S a ≠ 0 then hN S a else hN w a) = hN w a
    by_cases ha : hK S a = 0
    · rw [if_neg (fun h => h ha)]
    · rw [if_pos ha]; exact ((h a ha).2.1).symm
  · funext a
    show (if hK S a ≠ 0 then aI S a else aI w a) = aI w a
    by_cases ha : hK S a = 0
    · rw [if_neg (fun h => h ha)]
    · rw [if_pos ha]; exact ((h a ha).2.2.2.2.2.1).symm
  · funext a
    show (if hK S a ≠ 0 then aJ S a else aJ w a) = aJ w a
    by_cases ha : hK S a = 0
    · rw [if_neg (fun h => h ha)]
    · rw [if_pos ha]; exact ((h a ha).2.2.2.2.2.2.2.1).symm
  · funext a
    show (if hK S a ≠ 0 then aR S a else aR w a) = aR w a
    by_cases ha : hK S a = 0
    · rw [if_neg (fun h => h ha)]
    · rw [if_pos ha]; exact ((h a ha).2.2.2.2.2.2.1).symm
  · funext a
    show (if hK S a ≠ 0 then aD S a else aD w a) = aD w a
    by_cases ha : hK S a = 0
    · rw [if_neg (fun h => h ha)]
    · rw [if_pos ha]; exact ((h a ha).2.2.2.2.2.2.2.2).symm
theorem cE_same {G : GT} {x w : HS} {a : Nat} (h : hK w a = hK x a ∧ hN w a = hN x a ∧ (∀ f, hR w f a = hR x f a) ∧ (∀ f, hI w f a = hI x f a) ∧ (∀ f, hJ w f a = hJ x f a) ∧ aI w a = aI x a ∧ aR w a = aR x a ∧ aJ w a = aJ x a ∧ aD w a = aD x a) : cE G w a = cE G x a := by
  obtain ⟨h1, h2, h3, h4, h5, h6, h7, h8, h9⟩ := h
  have hf : fv w a = fv x a := funext fun q => by unfold fv; rw [h3, h4, h5]
  unfold cE cA
  rw [h1, h2, h6, h7, h8, h9, hf]
theorem va_P_mem {D : va_G} {cl : List vw_C} {ws : va_W} {H : Heap} (h : va_P D cl ws H) {q : Nat × va_E} (hq : q ∈ ws) : va_at D cl q H := by
  obtain ⟨k, hk⟩ := List.getElem?_of_mem hq
  exact h k q hk
theorem va_D_pw {A : Nat → Prop} {ws : va_W} (h : va_D A ws) : ws.Pairwise (fun p q => p.1 ≠ q.1) := List.pairwise_iff_getElem.mpr (fun i j hi hj hij he => by
  have := h.1 i j _ _ (List.getElem?_eq_getElem hi) (List.getElem?_eq_getElem hj) he
  omega)
theorem va_D_of {A : Nat → Prop} {ws : va_W} (h : ws.Pairwise (fun p q => p.1 ≠ q.1)) (hA : ∀ q ∈ ws, A q.1) : va_D A ws := by
  refine ⟨fun i j p q hi hj he => ?_, fun k q hq => hA q (List.mem_of_getElem? hq)⟩
  obtain ⟨li, ei⟩ := List.getElem?_eq_some_iff.mp hi
  obtain ⟨lj, ej⟩ := List.getElem?_eq_some_iff.mp hj
  have hp := List.pairwise_iff_getElem.mp h
  rcases Nat.lt_trichotomy i j with h9 | h9 | h9
  · exact absurd (by rw [ei, ej]; exact he) (hp i j li lj h9)
  · exact h9
  · exact absurd (by rw [ei, ej]; exact he.symm) (hp j i lj li h9)
theorem wL_mem {ws : va_W} {F : Nat → Option va_E} (h : wL ws F) {b : Nat} {e : va_E} : F b = some e ↔ (b, e) ∈ ws := by
  rw [h b e]
  exact ⟨fun ⟨j, hj⟩ => List.mem_of_getElem? hj, fun hm => List.getElem?_of_mem hm⟩
theorem wL_of {ws : va_W} {F : Nat → Option va_E} (h : ∀ b e, F b = some e ↔ (b, e) ∈ ws) : wL ws F := fun b e => by
  rw [h b e]
  exact ⟨fun hm => List.getElem?_of_mem hm, fun ⟨j, hj⟩ => List.mem_of_getElem? hj⟩
/-- the part of a world where P says so -/
theorem Wd.part {G : GT} {A : Nat → Prop} {w : HS} {H : Heap} (h : Wd G A w H) (P : Nat → Bool) : ∃ ws : va_W, va_P G.1 vwCl ws H ∧ ws.Pairwise (fun p q => p.1 ≠ q.1) ∧ (∀ b e, (b, e) ∈ ws ↔ (cE G w b = some e ∧ P b = true)) := by
  obtain ⟨ws, hP, hD, hL⟩ := h
  refine ⟨ws.filter (fun q => P q.1), fun k q hk => va_P_mem hP (List.mem_filter.mp (List.mem_of_getElem? hk)).1, (va_D_pw hD).filter _, fun b e => ?_⟩
  rw [List.mem_filter, wL_mem hL]
theorem Wd.sub {G : GT} {A B : Nat → Prop} {x w : HS} {H : Heap} (h : Wd G A w H) (i : Inn x w) (hB : ∀ a, hK x a ≠ 0 → B a) : Wd G B x H := by
  obtain ⟨ws, hP, hw, hm⟩ := h.part (fun a => decide (hK x a ≠ 0))
  have hx : ∀ b e, (b, e) ∈ ws ↔ cE G x b = some e := fun b e => by
    rw [hm, decide_eq_true_eq]
    by_cases hb : hK x b = 0
    · rw [cE_none.mpr hb]
      exact ⟨fun h => absurd hb h.2, fun h => by cases h⟩
    · rw [cE_same (i b hb)]
      exact ⟨fun h => h.1, fun h => ⟨h, hb⟩⟩
  refine ⟨ws, hP, va_D_of hw (fun q hq => hB q.1 (fun h0 => ?_)), wL_of (fun b e => (hx b e).symm)⟩
  have := (hx q.1 q.2).mp hq
  rw [cE_none.mpr h0] at this
  cases this
theorem Wd.frm {G : GT} {A : Nat → Prop} {S1 u w : HS} {H H1 : Heap} (h : Wd G A w H) (i : Inn S1 w) (hu : Wd G (dA S1 H.size) u H1) (hk : ∀ q : Nat, q < H.size → ¬ dA S1 H.size q → H1[q]? = H[q]?) : Wd G (dA w H.size) (fr S1 u w) H1 ∧ Cov S1 u w := by
  have hC : Cov S1 u w := fun a ha h1 => by
    by_cases hz : hK u a = 0
    · exact hz
    · rcases (hu.dom hz).1 with h9 | h9
      · exact absurd h1 h9
      · exact absurd (h.dom ha).2 (by omega)
  obtain ⟨w2, hP2, hw2, hm2⟩ := h.part (fun a => decide (hK S1 a = 0))
  obtain ⟨w1, hP1, hD1, hL1⟩ := id hu
  have hd2 : ∀ q ∈ w2, hK w q.1 ≠ 0 ∧ hK S1 q.1 = 0 ∧ q.1 < H.size := fun q hq => by
    obtain ⟨h5, h6⟩ := (hm2 q.1 q.2).mp hq
    have h7 : hK w q.1 ≠ 0 := fun h0 => by
      rw [cE_none.mpr h0] at h5
      cases h5
    exact ⟨h7, of_decide_eq_true h6, (h.dom h7).2⟩
  have hn1 : ∀ q ∈ w1, hK u q.1 ≠ 0 := fun q hq h0 => by
    have := (wL_mem hL1 (b := q.1) (e := q.2)).mpr hq
    rw [cE_none.mpr h0] at this
    cases this
  have hP2' : va_P G.1 vwCl w2 H1 := hP2.kept (fun k q hq => by
    obtain ⟨h5, h6, h7⟩ := hd2 q (List.mem_of_getElem? hq)
    exact hk q.1 h7 (fun h9 => h9.elim (fun h => h h6) (fun h => absurd h7 (by omega))))
  refine ⟨⟨w1 ++ w2, fun k q hq => ?_, va_D_of (List.pairwise_append.mpr ⟨va_D_pw hD1, hw2, fun p hp q hq he => ?_⟩) (fun q hq => ?_), wL_of (fun b e => ?_)⟩, hC⟩
  · rcases List.mem_append.mp (List.mem_of_getElem? hq) with h9 | h9
    · exact va_P_mem hP1 h9
    · exact va_P_mem hP2' h9
  · obtain ⟨h5, h6, -⟩ := hd2 q hq
    have := hn1 p hp
    rw [he] at this
    exact this (hC _ h5 h6)
  · rcases List.mem_append.mp hq with h9 | h9
    · have h8 := hD1.2
      obtain ⟨k, hk9⟩ := List.getElem?_of_mem h9
      rcases h8 k q hk9 with h7 | h7
      · exact Or.inl (by rw [(i q.1 h7).1]; exact h7)
      · exact Or.inr h7
    · exact Or.inl (hd2 q h9).1
  · rw [List.mem_append, hm2, ← wL_mem hL1, decide_eq_true_eq]
    by_cases hz : hK u b = 0
    · by_cases h1 : hK S1 b = 0
      · rw [cE_same (fr_out (w := w) h1 hz), cE_none.mpr hz]
        exact ⟨fun h => Or.inr ⟨h, h1⟩, fun h => Or.elim h (fun h => (by cases h)) (fun h => h.1)⟩
      · have h0 : hK (fr S1 u w) b = 0 := (if_neg (fun h => h hz)).trans (if_neg h1)
        rw [cE_none.mpr h0, cE_none.mpr hz]
        exact ⟨fun h => (by cases h), fun h => Or.elim h (fun h => (by cases h)) (fun h => absurd h.2 h1)⟩
    · rw [cE_same (fr_in b hz)]
      refine ⟨fun h => Or.inl h, fun h => Or.elim h id (fun h9 => ?_)⟩
      have h5 : hK w b ≠ 0 := fun h0 => by
        rw [cE_none.mpr h0] at h9
        cases h9.1
      exact absurd (hC b h5 h9.2) hz
