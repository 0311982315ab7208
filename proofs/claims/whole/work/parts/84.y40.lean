/-! the numbers of the tables at the law's entry -/
theorem in_J0 : ∀ w ∈ u_ws RJ0 TJ0 2, w ∈ lw_tbl := by decide +kernel
theorem in_Jx60 : ∀ w ∈ u_ws RJx00060 TJx00060 6, w ∈ lw_tbl := by decide +kernel
theorem wsG_tbl {w : Cond} (h : w ∈ wsG) : w ∈ lw_tbl := (List.mem_filter.mp h).1
theorem ao_T {s : State} {cA comp : ClassId} {kA : Class} {ty : FieldType} (h1 : s.vm.classes[cA]? = some kA) (h2 : kA.kind = .array comp ty) : ArrOfT s cA ty := fun N z => ⟨(fun k h => by cases h), kA, h1, comp, h2⟩
theorem ao_prim {s : State} {args : Array Value} {ty : FieldType} (h : (Cond.arrayClass ty).before args s = true) : ∃ c : ClassId, s.vm.findClass ("[" ++ ty.toString) = some c ∧ ArrOfT s c ty := by
  obtain ⟨c, k, comp, f1, f2, f3⟩ := Cond.arrayClass_spec h
  exact ⟨c, f1, ao_T f2 f3⟩
theorem ao_obj {s : State} {args : Array Value} {C : String} (h : (Cond.arrayOver (.object C)).before args s = true) : ∃ c : ClassId, ArrOfT s c (.object C) ∧ va_RA s c (.object C) := by
  obtain ⟨comp, c, k, h1, -, h3, h4, h5⟩ := Cond.arrayOver_spec h
  exact ⟨c, ao_T h3 h4, k, comp, h3, h4, h1, h5⟩
theorem ao_arr {s : State} {args : Array Value} {t : FieldType} (h : (Cond.arrayOver (.array t)).before args s = true) : ∃ (c comp : ClassId) (k : Class), ArrOfT s c (.array t) ∧ s.vm.findClass ("[" ++ (FieldType.array t).toString) = some c ∧ s.vm.classes[c]? = some k ∧ k.kind = .array comp (.array t) ∧ s.vm.findClass (FieldType.array t).toString = some comp := by
  obtain ⟨comp, c, k, h1, -, h3, h4, h5⟩ := arrayOverA_spec h
  exact ⟨c, comp, k, ao_T h3 h4, h5, h3, h4, h1⟩
theorem str_at {s : State} {args : Array Value} {t : Term} {nm : String} (h : (Cond.exactly t nm).before args s = true) : ∃ a : Nat, t.eval args s none [] s = some (.ref a) := by
  obtain ⟨a, c, cA, kA, q1, -⟩ := Cond.exactly_spec (args := args) (first := s) (o := none) (s := s) (idx := []) (t := t) (cls := nm) h
  exact ⟨a, q1⟩
set_option maxRecDepth 100000 in
set_option maxHeartbeats 4000000 in
theorem g_start {s : State} {args : Array Value} (hts : ∀ w ∈ lw_tbl, w.before args s = true) (hgv : (Jvm.Cond.and given_1 narrow_1).before args s = true) : ∃ G : GT, gK G s ∧ gE G (fun q => s.heap.size ≤ q) s s.heap ∧ aoW s := by
  have W : ∀ (i : Nat) {w : Cond}, lw_tbl[i]? = some w → w.before args s = true := fun i w h => hts w (List.mem_of_getElem? h)
  have hs := flat_of_before _ hgv
  have hA : ∀ a : Nat, a < s.heap.size → ¬ (fun q : Nat => s.heap.size ≤ q) a := fun a h => Nat.not_le.mpr h
  obtain ⟨d0, i0, hn0⟩ := u_known (C := RJ0) (T := TJ0) (N := 2) (n := 4) hts in_J0 (W 408 (by decide +kernel))
  obtain ⟨d1, i1, hn1⟩ := u_known (C := RJx00060) (T := TJx00060) (N := 6) (n := 6) hts in_Jx60 (W 336 (by decide +kernel))
  obtain ⟨d2, i2, hn2⟩ := u_known (C := RX0) (T := TX0) (N := 5) (n := 5) hts (fun w h => wsG_tbl (in_X0 w h)) (W 119 (by decide +kernel))
  obtain ⟨d3, i3, hn3⟩ := u_known (C := RX1) (T := TX1) (N := 8) (n := 8) hts (fun w h => wsG_tbl (in_X1 w h)) (W 78 (by decide +kernel))
  obtain ⟨d4, i4, hn4⟩ := u_known (C := RX2) (T := TX2) (N := 3) (n := 3) hts (fun w h => wsG_tbl (in_X2 w h)) (W 141 (by decide +kernel))
  obtain ⟨d5, i5, hn5⟩ := u_known (C := RX3) (T := TX3) (N := 12) (n := 12) hts (fun w h => wsG_tbl (in_X3 w h)) (W 579 (by decide +kernel))
  obtain ⟨d6, i6, hn6⟩ := u_known (C := RX4) (T := TX4) (N := 13) (n := 13) hts (fun w h => wsG_tbl (in_X4 w h)) (W 64 (by decide +kernel))
  obtain ⟨d7, i7, hn7⟩ := u_known (C := RX5) (T := TX5) (N := 22) (n := 22) hts (fun w h => wsG_tbl (in_X5 w h)) (W 860 (by decide +kernel))
  obtain ⟨k10, n10, a10⟩ := ao_prim (ty := .int) (W 118 (by decide +kernel))
  obtain ⟨k11, n11, a11⟩ := ao_prim (ty := .char) (W 654 (by decide +kernel))
  obtain ⟨k12, n12, a12⟩ := ao_prim (ty := .long) (W 117 (by decide +kernel))
  obtain ⟨k18, n18, a18⟩ := ao_prim (ty := .double) (W 1202 (by decide +kernel))
  have w13 : (Cond.arrayOver (.object RX0)).before args s = true := (W 72 (by decide +kernel))
  obtain ⟨k13, a13, n13⟩ := ao_obj w13
  have w14 : (Cond.arrayOver (.object RX2)).before args s = true := (W 74 (by decide +kernel))
  obtain ⟨k14, a14, n14⟩ := ao_obj w14
  have w15 : (Cond.arrayOver (.object RX3)).before args s = true := (W 76 (by decide +kernel))
  obtain ⟨k15, a15, n15⟩ := ao_obj w15
  have w16 : (Cond.arrayOver (.array .long)).before args s = true := (W 85 (by decide +kernel))
  obtain ⟨k16, j16, q16, a16, n16, e16, m16, f16⟩ := ao_arr w16
  have w17 : (Cond.arrayOver (.array .char)).before args s = true := (W 866 (by decide +kernel))
  obtain ⟨k17, j17, q17, a17, n17, e17, m17, f17⟩ := ao_arr w17
  have x81 : (Cond.exactly (Term.string "TrackFusion" (81 : Nat)) "java/lang/String").before args s = true := hs _ (by decide +kernel)
  obtain ⟨s81, t81⟩ := str_at x81
  have x102 : (Cond.exactly (Term.string "TrackFusion" (102 : Nat)) "java/lang/String").before args s = true := hs _ (by decide +kernel)
  obtain ⟨s102, t102⟩ := str_at x102
  have x109 : (Cond.exactly (Term.string "TrackFusion" (109 : Nat)) "java/lang/String").before args s = true := hs _ (by decide +kernel)
  obtain ⟨s109, t109⟩ := str_at x109
  have x164 : (Cond.exactly (Term.string "TrackFusion" (164 : Nat)) "java/lang/String").before args s = true := hs _ (by decide +kernel)
  obtain ⟨s164, t164⟩ := str_at x164
  have x321 : (Cond.exactly (Term.string "TrackFusion" (321 : Nat)) "java/lang/String").before args s = true := hs _ (by decide +kernel)
  obtain ⟨s321, t321⟩ := str_at x321
  have x331 : (Cond.exactly (Term.string "TrackFusion" (331 : Nat)) "java/lang/String").before args s = true := hs _ (by decide +kernel)
  obtain ⟨s331, t331⟩ := str_at x331
  have x345 : (Cond.exactly (Term.string "TrackFusion" (345 : Nat)) "java/lang/String").before args s = true := hs _ (by decide +kernel)
  obtain ⟨s345, t345⟩ := str_at x345
  have x348 : (Cond.exactly (Term.string "TrackFusion" (348 : Nat)) "java/lang/String").before args s = true := hs _ (by decide +kernel)
  obtain ⟨s348, t348⟩ := str_at x348
  have x350 : (Cond.exactly (Term.string "TrackFusion" (350 : Nat)) "java/lang/String").before args s = true := hs _ (by decide +kernel)
  obtain ⟨s350, t350⟩ := str_at x350
  have x354 : (Cond.exactly (Term.string "TrackFusion" (354 : Nat)) "java/lang/String").before args s = true := hs _ (by decide +kernel)
  obtain ⟨s354, t354⟩ := str_at x354
  have x359 : (Cond.exactly (Term.string "TrackFusion" (359 : Nat)) "java/lang/String").before args s = true := hs _ (by decide +kernel)
  obtain ⟨s359, t359⟩ := str_at x359
  have hr1 : (Cond.isRef (.static "java/lang/Throwable" "UNASSIGNED_STACK" "[Ljava/lang/StackTraceElement;")).before args s = true := hs _ (by decide +kernel)
  have hr2 : (Cond.isRef (.static "java/lang/Throwable" "SUPPRESSED_SENTINEL" "Ljava/util/List;")).before args s = true := hs _ (by decide +kernel)
  have nc0 : (Cond.not (.castable "java/lang/IllegalArgumentException" "java/lang/IndexOutOfBoundsException")).before args s = true := hs _ (by decide +kernel)
  have nc1 : (Cond.not (.castable "java/lang/IllegalStateException" "java/lang/IndexOutOfBoundsException")).before args s = true := hs _ (by decide +kernel)
  have nc2 : (Cond.not (.castable "java/lang/IllegalStateException" "java/lang/IllegalArgumentException")).before args s = true := hs _ (by decide +kernel)
  have nc3 : (Cond.not (.castable "java/util/NoSuchElementException" "java/lang/IndexOutOfBoundsException")).before args s = true := hs _ (by decide +kernel)
  have nc4 : (Cond.not (.castable "java/util/NoSuchElementException" "java/lang/IllegalArgumentException")).before args s = true := hs _ (by decide +kernel)
  refine ⟨((fun k => match k with | 0 => d0 | 1 => d1 | 2 => d2 | 3 => d3 | 4 => d4 | 5 => d5 | 6 => d6 | _ => d7, fun k => match k with | 0 => i0 | 1 => i1 | 2 => i2 | 3 => i3 | 4 => i4 | 5 => i5 | 6 => i6 | _ => i7), fun k => match k with | 10 => k10 | 11 => k11 | 12 => k12 | 13 => k13 | 14 => k14 | 15 => k15 | 16 => k16 | 17 => k17 | _ => k18, fun k => match k with | 81 => s81 | 102 => s102 | 109 => s109 | 164 => s164 | 321 => s321 | 331 => s331 | 345 => s345 | 348 => s348 | 350 => s350 | 354 => s354 | _ => s359), ⟨⟨?_, ?_⟩, ?_⟩, ⟨?_, ?_, ?_, ?_, ?_⟩, ?_⟩
  · intro k q hq
    match k, hq with
    | 0, hq => cases hq; exact hn0
    | 1, hq => cases hq; exact hn1
    | 2, hq => cases hq; exact hn2
    | 3, hq => cases hq; exact hn3
    | 4, hq => cases hq; exact hn4
    | 5, hq => cases hq; exact hn5
    | 6, hq => cases hq; exact hn6
    | 7, hq => cases hq; exact hn7
    | k + 8, hq => simp [vwCl] at hq
  · intro k q hq
    match k, hq with
    | 0, hq => cases hq; exact ⟨a10, n10⟩
    | 1, hq => cases hq; exact ⟨a11, n11⟩
    | 2, hq => cases hq; exact ⟨a12, n12⟩
    | 3, hq => cases hq; exact ⟨a13, n13⟩
    | 4, hq => cases hq; exact ⟨a14, n14⟩
    | 5, hq => cases hq; exact ⟨a15, n15⟩
    | 6, hq => cases hq; exact ⟨a16, n16⟩
    | 7, hq => cases hq; exact ⟨a17, n17⟩
    | 8, hq => cases hq; exact ⟨a18, n18⟩
    | k + 9, hq => simp [tysG] at hq
  · have ej : j17 = k11 := Option.some.inj (f17.symm.trans n11)
    subst ej
    exact ⟨q17, e17, m17⟩
  · exact vx_Zqof (W 353 (by decide +kernel)) (W 50 (by decide +kernel)) hr1 hA
  · exact vx_Zqof (W 355 (by decide +kernel)) (W 50 (by decide +kernel)) hr2 hA
  · intro q hq
    simp only [strs, List.mem_cons, List.not_mem_nil, or_false] at hq
    rcases hq with rfl | rfl | rfl | rfl | rfl | rfl | rfl | rfl | rfl | rfl | rfl
    · exact vk_R.of (W 432 (by decide +kernel)) t81
    · exact vk_R.of (W 538 (by decide +kernel)) t102
    · exact vk_R.of (W 556 (by decide +kernel)) t109
    · exact vk_R.of (W 693 (by decide +kernel)) t164
    · exact vk_R.of (W 787 (by decide +kernel)) t321
    · exact vk_R.of (W 802 (by decide +kernel)) t331
    · exact vk_R.of (W 827 (by decide +kernel)) t345
    · exact vk_R.of (W 739 (by decide +kernel)) t348
    · exact vk_R.of (W 707 (by decide +kernel)) t350
    · exact vk_R.of (W 850 (by decide +kernel)) t354
    · exact vk_R.of (W 454 (by decide +kernel)) t359
  · exact fun w hw => va_Nw.of (wsF.on hw) (hts w (List.mem_filter.mp hw).1)
  · intro q hq
    simp only [ncs, List.mem_cons, List.not_mem_nil, or_false] at hq
    rcases hq with rfl | rfl | rfl | rfl | rfl
    · exact va_Nc.of nc0
    · exact va_Nc.of nc1
    · exact va_Nc.of nc2
    · exact va_Nc.of nc3
    · exact va_Nc.of nc4
  · exact ⟨va_AO.of w13, va_AO.of w14, va_AO.of w15, w17, w16⟩
