/-- a row of rows, by its rows r -/
def E2 (T : HS) (q : Nat) (r : Nat → Nat) : Prop := hK T q = 16 ∧ (∀ i, i < 4 → aR T q i = some (r i)) ∧ (∀ i, i < 4 → hK T (r i) = 12 ∧ hN T (r i) = 6)
theorem E2.arr {T : HS} {q b kd n f x0 : Nat} {r : Nat → Nat} {v : Option Nat} (h : E2 T q r) (hb : hK T b = 0) : E2 (sR (nA T b kd n) f x0 v) q r := by
  obtain ⟨h1, h2, h3⟩ := h
  have hq : q ≠ b := fun z => by rw [z, hb] at h1; omega
  refine ⟨(hK_nA2 (kd := kd) (n := n) hq).trans h1, fun i hi => (congrFun (aR_nA2 (kd := kd) (n := n) hq) i).trans (h2 i hi), fun i hi => ?_⟩
  obtain ⟨a, c⟩ := h3 i hi
  have hr : r i ≠ b := fun z => by rw [z, hb] at a; omega
  exact ⟨(hK_nA2 (kd := kd) (n := n) hr).trans a, (hN_nA2 (kd := kd) (n := n) hr).trans c⟩
def r4 (r0 r1 r2 r3 : Nat) : Nat → Nat := fun i => if i = 0 then r0 else if i = 1 then r1 else if i = 2 then r2 else r3
theorem mS_f {T : HS} {q r0 r1 r2 r3 : Nat} (hq : hK T q = 0) (h0 : hK T r0 = 0) (h1 : hK T r1 = 0) (h2 : hK T r2 = 0) (h3 : hK T r3 = 0) (nd : [q, r0, r1, r2, r3].Nodup) :
    Old T (mS T q r0 r1 r2 r3) ∧ (∀ a, a ≠ q → a ≠ r0 → a ≠ r1 → a ≠ r2 → a ≠ r3 → hK (mS T q r0 r1 r2 r3) a = hK T a ∧ hN (mS T q r0 r1 r2 r3) a = hN T a ∧ aI (mS T q r0 r1 r2 r3) a = aI T a) ∧ E2 (mS T q r0 r1 r2 r3) q (r4 r0 r1 r2 r3) ∧ hN (mS T q r0 r1 r2 r3) q = 4 ∧ (∀ z, aI (mS T q r0 r1 r2 r3) q z = 0) := by
  simp only [List.nodup_cons, List.mem_cons, List.not_mem_nil, or_false, not_or] at nd
  obtain ⟨⟨n01, n02, n03, n04⟩, ⟨n12, n13, n14⟩, ⟨n23, n24⟩, n34, -⟩ := nd
  have k : ∀ a, hK (mS T q r0 r1 r2 r3) a = hK (nA (nA (nA (nA (nA T q 16 4) r0 12 6) r1 12 6) r2 12 6) r3 12 6) a := fun _ => rfl
  have nn : ∀ a, hN (mS T q r0 r1 r2 r3) a = hN (nA (nA (nA (nA (nA T q 16 4) r0 12 6) r1 12 6) r2 12 6) r3 12 6) a := fun _ => rfl
  have ii : ∀ a, aI (mS T q r0 r1 r2 r3) a = aI (nA (nA (nA (nA (nA T q 16 4) r0 12 6) r1 12 6) r2 12 6) r3 12 6) a := fun _ => rfl
  have o1 : Old T (nA T q 16 4) := Old.newA hq
  have o2 : Old T (nA (nA T q 16 4) r0 12 6) := o1.tr (Old.newA (by rw [hK_nA2 (Ne.symm n01)]; exact h0))
  have o3 : Old T (nA (nA (nA T q 16 4) r0 12 6) r1 12 6) := o2.tr (Old.newA (by rw [hK_nA2 (Ne.symm n12), hK_nA2 (Ne.symm n02)]; exact h1))
  have o4 : Old T (nA (nA (nA (nA T q 16 4) r0 12 6) r1 12 6) r2 12 6) := o3.tr (Old.newA (by rw [hK_nA2 (Ne.symm n23), hK_nA2 (Ne.symm n13), hK_nA2 (Ne.symm n03)]; exact h2))
  have o5 : Old T (nA (nA (nA (nA (nA T q 16 4) r0 12 6) r1 12 6) r2 12 6) r3 12 6) := o4.tr (Old.newA (by rw [hK_nA2 (Ne.symm n34), hK_nA2 (Ne.symm n24), hK_nA2 (Ne.symm n14), hK_nA2 (Ne.symm n04)]; exact h3))
  have kq : hK (mS T q r0 r1 r2 r3) q = 16 := by rw [k, hK_nA2 n04, hK_nA2 n03, hK_nA2 n02, hK_nA2 n01]; exact hK_nA1
  refine ⟨Old.wR hq (Old.wR hq (Old.wR hq (Old.wR hq o5))), fun a a0 a1 a2 a3 a4 => ⟨?_, ?_, ?_⟩, ⟨kq, fun i hi => ?_, fun i hi => ?_⟩, ?_, fun z => ?_⟩
  · rw [k, hK_nA2 a4, hK_nA2 a3, hK_nA2 a2, hK_nA2 a1, hK_nA2 a0]
  · rw [nn, hN_nA2 a4, hN_nA2 a3, hN_nA2 a2, hN_nA2 a1, hN_nA2 a0]
  · rw [ii, aI_nA2 a4, aI_nA2 a3, aI_nA2 a2, aI_nA2 a1, aI_nA2 a0]
  · unfold mS r4
    rw [aR_tR1, aR_tR1, aR_tR1, aR_tR1]
    rcases (show i = 0 ∨ i = 1 ∨ i = 2 ∨ i = 3 by omega) with rfl | rfl | rfl | rfl <;> rfl
  · unfold r4
    rcases (show i = 0 ∨ i = 1 ∨ i = 2 ∨ i = 3 by omega) with rfl | rfl | rfl | rfl
    · exact ⟨by rw [k]; show hK _ r0 = 12; rw [hK_nA2 n14, hK_nA2 n13, hK_nA2 n12]; exact hK_nA1, by rw [nn]; show hN _ r0 = 6; rw [hN_nA2 n14, hN_nA2 n13, hN_nA2 n12]; exact hN_nA1⟩
    · exact ⟨by rw [k]; show hK _ r1 = 12; rw [hK_nA2 n24, hK_nA2 n23]; exact hK_nA1, by rw [nn]; show hN _ r1 = 6; rw [hN_nA2 n24, hN_nA2 n23]; exact hN_nA1⟩
    · exact ⟨by rw [k]; show hK _ r2 = 12; rw [hK_nA2 n34]; exact hK_nA1, by rw [nn]; show hN _ r2 = 6; rw [hN_nA2 n34]; exact hN_nA1⟩
    · exact ⟨by rw [k]; exact hK_nA1, by rw [nn]; exact hN_nA1⟩
  · rw [nn, hN_nA2 n04, hN_nA2 n03, hN_nA2 n02, hN_nA2 n01]; exact hN_nA1
  · rw [ii, aI_nA2 n04, aI_nA2 n03, aI_nA2 n02, aI_nA2 n01]; exact aI_nA1
theorem Ini.mul {S0 T : HS} {x0 kr f q r0 r1 r2 r3 : Nat} {L : List (Nat × Nat × Nat × Nat)} {g : Nat → Int32} (h0 : hK S0 x0 = 0) (h : Ini kr S0 T x0 L g) (hr : kr ≠ 0) (hq : hK T q = 0) (k0 : hK T r0 = 0) (k1 : hK T r1 = 0) (k2 : hK T r2 = 0) (k3 : hK T r3 = 0) (nd : [q, r0, r1, r2, r3].Nodup) (hf : ∀ q ∈ L, q.1 ≠ f) : Ini kr S0 (sR (mS T q r0 r1 r2 r3) f x0 (some q)) x0 ((f, q, 16, 4) :: L) g ∧ E2 (sR (mS T q r0 r1 r2 r3) f x0 (some q)) q (r4 r0 r1 r2 r3) := by
  obtain ⟨m1, m2, m3, m4, m5⟩ := mS_f hq k0 k1 k2 k3 nd
  refine ⟨?_, m3⟩
  obtain ⟨h1, h2, h3, h4, h5⟩ := h
  have hz : ∀ b, hK T b = 0 → x0 ≠ b := fun b hb z => hr (by rw [← h1, z]; exact hb)
  have hS : ∀ b, hK T b = 0 → hK S0 b = 0 := fun b hb => Classical.byContradiction fun z => z (by rw [← (h5 b z).1]; exact hb)
  have hne : ∀ p ∈ L, ∀ b, hK T b = 0 → p.2.1 ≠ b := fun p hp b hb z => (h3 p hp).2.2.1 (by rw [← (h3 p hp).2.1, z]; exact hb)
  refine ⟨((m2 x0 (hz q hq) (hz r0 k0) (hz r1 k1) (hz r2 k2) (hz r3 k3)).1).trans h1, h2, fun p hp => ?_, ?_, Old.pR h0 (h5.tr m1)⟩
  · rcases List.mem_cons.mp hp with rfl | hp
    · exact ⟨hR_sR1, m3.1, (show (16 : Nat) ≠ 0 by decide), (hz q hq).symm, m4, m5, hS q hq⟩
    · obtain ⟨a1, a2, a3, a4, a5, a6, a7⟩ := h3 p hp
      obtain ⟨e1, e2, e3⟩ := m2 p.2.1 (hne p hp q hq) (hne p hp r0 k0) (hne p hp r1 k1) (hne p hp r2 k2) (hne p hp r3 k3)
      exact ⟨(hR_sR2 (fun z => hf p hp z.1)).trans a1, e1.trans a2, a3, a4, e2.trans a5, fun z => (congrFun e3 z).trans (a6 z), a7⟩
  · rw [List.map_cons, List.nodup_cons]
    refine ⟨fun hm => ?_, h4⟩
    obtain ⟨p, hp, e⟩ := List.mem_map.mp hm
    exact hne p hp q hq e
/-- what the search's object is when it is made -/
def MXF (S0 u : HS) (m a9 a10 a12 a13 : Nat) (r : Nat → Nat) : Prop := hK u m = 2 ∧ hR u 7 m = some a9 ∧ hR u 8 m = some a10 ∧ hR u 10 m = some a12 ∧ hR u 11 m = some a13 ∧ hK u a9 = 15 ∧ hN u a9 = 6 ∧ E2 u a10 r ∧ hN u a10 = 4 ∧ hK u a12 = 10 ∧ hN u a12 = 4 ∧ hK u a13 = 10 ∧ hN u a13 = 4 ∧ a12 ≠ a13 ∧ hK S0 a9 = 0 ∧ (∀ i, i < 4 → ∀ j, j < 4 → r i = r j → i = j)
theorem r4_inj {q r0 r1 r2 r3 : Nat} (nd : [q, r0, r1, r2, r3].Nodup) : ∀ i, i < 4 → ∀ j, j < 4 → r4 r0 r1 r2 r3 i = r4 r0 r1 r2 r3 j → i = j := by
  intro i hi j hj e
  have h2 := nd_inj (i := i + 1) (j := j + 1) nd (by show i + 1 < 5; omega) (by show j + 1 < 5; omega) (by
    have g : ∀ k, k < 4 → [q, r0, r1, r2, r3].getD (k + 1) 0 = r4 r0 r1 r2 r3 k := fun k hk => by
      rcases (show k = 0 ∨ k = 1 ∨ k = 2 ∨ k = 3 by omega) with rfl | rfl | rfl | rfl <;> rfl
    rw [g i hi, g j hj, e])
  omega
