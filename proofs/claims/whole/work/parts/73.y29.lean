-- classLink 'TrackFusionModel' 19 '[C'
theorem cl_19 : Cond.classLink RX5 19 "[C" ∈ wsG := wsG_in 865 (by decide +kernel) (by decide +kernel)
section NQC
variable {p : Program} {l : Launch} {e : Env} {R : Room} {s : State} {m : MethodId} {args : Array Value} {below : List Frame} {meth : Method} {c : Code} {cc : ByteArray} {nL : Nat} {own : String} {G : GT} {A : Nat → Prop} {S : HS} {k n : Nat} {Q : State → Prop} {pc : Nat} {lv lv' : List (Nat × Value)} {st : List Value}
theorem v_newqC (C : Cx p l e R s m args below meth c cc nL own G A) {idx : Nat} {x : Int32} (N : Nat) (hl : Cond.classLink own idx "[C" ∈ wsG) (hov : aoB (.array .char) s) (hn : ¬ x < 0) (hx : x.toNatClampNeg = N) (hb : N ≤ 100000000) (hc : k + 1 ≤ R.cells) (hs : n + N ≤ R.slots) (hd : decode cc pc = .ok (.anewarray idx, 3)) (kk : ∀ q : Nat, hK S q = 0 → V p l e R s m args below meth c nL G A (nA S q 17 N) (k + 1) (n + N) Q (pc + 3) lv (.ref q :: st)) : V p l e R s m args below meth c nL G A S k n Q pc lv (.int x :: st) := by
  intro H locs ls hW hS hv
  obtain ⟨ws, hP, hD, hL⟩ := id hW
  have hKK := C.2.2.2.2.2.2.1.1
  have ha0 : cA0 17 N = (N, .inr (.inr (.inr (.inr (fun _ => none))))) := rfl
  refine W.anewA (t := .char) C.1 C.2.1 C.2.2.2.1 (C.2.2.2.2.1 _ hl) hov rfl hd rfl hn (by rw [hx]; omega) (by exact hc) (by rw [hx]; exact hs) (fun cQ kA comp f1 f2 f3 f4 => ?_)
  have e : cQ = G.2.1 17 := Option.some.inj (f1.symm.trans ((hKK.2 7 _ rfl).2))
  subst e
  rw [hx]
  generalize hH1 : H.push ({ cls := G.2.1 17, slots := Array.replicate N .null, vm := .none } : Cell) = H1
  have z1 : H1.size = H.size + 1 := by rw [← hH1, Array.size_push]
  have e1 : H1[H.size]? = some (arrV (G.2.1 17) N (fun _ => .null)) := by rw [← hH1, Array.getElem?_push_size, ← arrV_new]
  have o1 : ∀ q : Nat, q < H.size → H1[q]? = H[q]? := fun q hq => by rw [← hH1, Array.getElem?_push, if_neg (Nat.ne_of_lt hq)]
  have hf := hW.fresh0
  refine kk H.size hf H1 locs ls ⟨ws ++ [(H.size, .inl (G.2.1 17, cA0 17 N))], (hP.kept (fun k9 x h9 => o1 x.1 ((hP k9 x h9).lt))).app (fun k9 x h9 => ?_), hD.push hP rfl (C.2.2.2.2.2.2.2.2 _ hS.1), wL_congr (wL_push hL (cE_none.mpr hf)) (fun b => cE_nA (by decide) b)⟩ ⟨Nat.le_trans hS.1 (by omega), fun x h1 h2 => (o1 x (Nat.lt_of_lt_of_le h1 hS.1)).trans (hS.2.1 x h1 h2), hS.2.2⟩ hv
  have hz : k9 < 1 := (List.getElem?_eq_some_iff.mp h9).1
  rw [show k9 = 0 by omega] at h9
  cases h9
  show H1[H.size]? = some (arrV (G.2.1 17) N (fun _ => va_rf none))
  exact e1
end NQC
theorem iniA {S0 T : HS} {x0 b0 b1 b2 b3 b4 b5 b6 b7 b8 b9 b10 : Nat} {g : Nat → Int32} (h : Ini 6 S0 T x0 [(62, b10, 10, 2), (59, b9, 10, 4), (58, b8, 10, 4), (49, b7, 10, 4), (48, b6, 10, 4), (47, b5, 10, 4), (46, b4, 10, 60), (45, b3, 17, 60), (43, b2, 10, 540), (42, b1, 10, 4), (41, b0, 10, 16)] g) : NA T (fun i => [x0, b0, b1, b2, b3, b4, b5, b6, b7, b8, b9, b10].getD i 0) 0 := by
  have m0 := h.2.2.1 (41, b0, 10, 16) (List.mem_of_getElem? (i := 10) rfl)
  have m1 := h.2.2.1 (42, b1, 10, 4) (List.mem_of_getElem? (i := 9) rfl)
  have m2 := h.2.2.1 (43, b2, 10, 540) (List.mem_of_getElem? (i := 8) rfl)
  have m3 := h.2.2.1 (45, b3, 17, 60) (List.mem_of_getElem? (i := 7) rfl)
  have m4 := h.2.2.1 (46, b4, 10, 60) (List.mem_of_getElem? (i := 6) rfl)
  have m5 := h.2.2.1 (47, b5, 10, 4) (List.mem_of_getElem? (i := 5) rfl)
  have m6 := h.2.2.1 (48, b6, 10, 4) (List.mem_of_getElem? (i := 4) rfl)
  have m7 := h.2.2.1 (49, b7, 10, 4) (List.mem_of_getElem? (i := 3) rfl)
  have m8 := h.2.2.1 (58, b8, 10, 4) (List.mem_of_getElem? (i := 2) rfl)
  have m9 := h.2.2.1 (59, b9, 10, 4) (List.mem_of_getElem? (i := 1) rfl)
  have m10 := h.2.2.1 (62, b10, 10, 2) (List.mem_of_getElem? (i := 0) rfl)
  have nd0 : [b10, b9, b8, b7, b6, b5, b4, b3, b2, b1, b0].Nodup := h.2.2.2.1
  have ne : ∀ b, b ∈ [b10, b9, b8, b7, b6, b5, b4, b3, b2, b1, b0] → b ≠ x0 := fun b hb => by
    obtain ⟨q, hq, e⟩ := List.mem_map.mp (show b ∈ ([(62, b10, 10, 2), (59, b9, 10, 4), (58, b8, 10, 4), (49, b7, 10, 4), (48, b6, 10, 4), (47, b5, 10, 4), (46, b4, 10, 60), (45, b3, 17, 60), (43, b2, 10, 540), (42, b1, 10, 4), (41, b0, 10, 16)].map (fun q => q.2.1)) from hb)
    rw [← e]
    exact (h.2.2.1 q hq).2.2.2.1
  have nd : [x0, b0, b1, b2, b3, b4, b5, b6, b7, b8, b9, b10].Nodup := by
    rw [List.nodup_cons]
    refine ⟨fun hm => ne x0 (List.mem_reverse.mp (show x0 ∈ [b10, b9, b8, b7, b6, b5, b4, b3, b2, b1, b0].reverse from hm)) rfl, ?_⟩
    · have h9 : [b10, b9, b8, b7, b6, b5, b4, b3, b2, b1, b0].reverse.Nodup := List.pairwise_reverse.mpr (List.Pairwise.imp (fun h => Ne.symm h) nd0)
      exact h9
  exact ⟨h.1, (m0).2.1, (m1).2.1, (m2).2.1, (m4).2.1, (m5).2.1, (m6).2.1, (m7).2.1, (m8).2.1, (m9).2.1, (m10).2.1, (m3).2.1, fun t ht => absurd ht (Nat.not_lt_zero t), (m0).1, (m1).1, (m2).1, (m3).1, (m4).1, (m5).1, (m6).1, (m7).1, (m8).1, (m9).1, (m10).1, (m0).2.2.2.2.1, (m1).2.2.2.2.1, (m2).2.2.2.2.1, (m3).2.2.2.2.1, (m4).2.2.2.2.1, (m5).2.2.2.2.1, (m6).2.2.2.2.1, (m7).2.2.2.2.1, (m8).2.2.2.2.1, (m9).2.2.2.2.1, (m10).2.2.2.2.1, fun t ht => absurd ht (Nat.not_lt_zero t), fun i hi j hj e => nd_inj nd hi hj e, fun i hi => absurd hi (Nat.not_lt_zero i), by decide⟩
theorem iniV {S0 T : HS} {x0 b0 b1 b2 b3 b4 b5 b6 b7 b8 b9 b10 : Nat} {g : Nat → Int32} (h : Ini 6 S0 T x0 [(62, b10, 10, 2), (59, b9, 10, 4), (58, b8, 10, 4), (49, b7, 10, 4), (48, b6, 10, 4), (47, b5, 10, 4), (46, b4, 10, 60), (45, b3, 17, 60), (43, b2, 10, 540), (42, b1, 10, 4), (41, b0, 10, 16)] g) (h44 : g 44 = 0) (h50 : g 50 = 0) (h51 : g 51 = 20) (h52 : g 52 = 8) (h53 : g 53 = 4) (h54 : g 54 = 3) (h55 : g 55 = 2) (h56 : g 56 = 0) (h57 : g 57 = 0) : NV T (fun i => [x0, b0, b1, b2, b3, b4, b5, b6, b7, b8, b9, b10].getD i 0) q00 := by
  have m0 := h.2.2.1 (41, b0, 10, 16) (List.mem_of_getElem? (i := 10) rfl)
  have m1 := h.2.2.1 (42, b1, 10, 4) (List.mem_of_getElem? (i := 9) rfl)
  have m2 := h.2.2.1 (43, b2, 10, 540) (List.mem_of_getElem? (i := 8) rfl)
  have m3 := h.2.2.1 (45, b3, 17, 60) (List.mem_of_getElem? (i := 7) rfl)
  have m4 := h.2.2.1 (46, b4, 10, 60) (List.mem_of_getElem? (i := 6) rfl)
  have m5 := h.2.2.1 (47, b5, 10, 4) (List.mem_of_getElem? (i := 5) rfl)
  have m6 := h.2.2.1 (48, b6, 10, 4) (List.mem_of_getElem? (i := 4) rfl)
  have m7 := h.2.2.1 (49, b7, 10, 4) (List.mem_of_getElem? (i := 3) rfl)
  have m8 := h.2.2.1 (58, b8, 10, 4) (List.mem_of_getElem? (i := 2) rfl)
  have m9 := h.2.2.1 (59, b9, 10, 4) (List.mem_of_getElem? (i := 1) rfl)
  have m10 := h.2.2.1 (62, b10, 10, 2) (List.mem_of_getElem? (i := 0) rfl)
  exact ⟨(h.2.1 44).trans h44, (h.2.1 50).trans h50, (h.2.1 51).trans h51, (h.2.1 52).trans h52, (h.2.1 53).trans h53, (h.2.1 54).trans h54, (h.2.1 55).trans h55, (h.2.1 56).trans h56, (h.2.1 57).trans h57, fun i hi => (m1.2.2.2.2.2.1 i), fun i hi e => absurd e (by show ¬ (0 : Nat) = 1; decide), fun i hi e => absurd e (by show ¬ (0 : Nat) = 2; decide), fun t ht => absurd ht (Nat.not_lt_zero t), fun t ht => absurd ht (Nat.not_lt_zero t), fun t ht => absurd ht (Nat.not_lt_zero t), fun t ht => absurd ht (Nat.not_lt_zero t), fun r hr => m5.2.2.2.2.2.1 r, fun r hr => m6.2.2.2.2.2.1 r, fun r hr => m7.2.2.2.2.2.1 r⟩
