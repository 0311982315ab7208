section
-- ===== PART A: goes FIRST, ahead of the names: the tables' words, and 'selects' of the private methods out of them =====
/-- a private method of a class that the tables say can be made, by its rows of tables_1 -/
def lw_okq (q : MethodName × Nat) : Prop := (q.1.cls ≠ "java/lang/invoke/MethodHandle" ∧ q.1.cls ≠ "java/lang/invoke/VarHandle") ∧ Cond.instantiable q.1.cls q.2 ∈ tables_1 ∧ Cond.privateMethod q.1 ∈ tables_1 ∧ Cond.instanceMethod q.1 ∈ tables_1
theorem lw_p0 : lw_okq (⟨"TrackFusion", "findBestMatching", "()V"⟩, 13) := ⟨⟨by decide +kernel, by decide +kernel⟩, List.mem_of_getElem? (i := 24) (by decide +kernel), List.mem_of_getElem? (i := 174) (by decide +kernel), List.mem_of_getElem? (i := 175) (by decide +kernel)⟩
theorem lw_p1 : lw_okq (⟨"TrackFusion", "prepareMatching", "()V"⟩, 13) := ⟨⟨by decide +kernel, by decide +kernel⟩, List.mem_of_getElem? (i := 24) (by decide +kernel), List.mem_of_getElem? (i := 178) (by decide +kernel), List.mem_of_getElem? (i := 179) (by decide +kernel)⟩
theorem lw_p2 : lw_okq (⟨"TrackFusion", "costOfTaking", "(LTrackFusion$Report;LTrackFusion$Track;)J"⟩, 13) := ⟨⟨by decide +kernel, by decide +kernel⟩, List.mem_of_getElem? (i := 24) (by decide +kernel), List.mem_of_getElem? (i := 200) (by decide +kernel), List.mem_of_getElem? (i := 201) (by decide +kernel)⟩
theorem lw_p3 : lw_okq (⟨"TrackFusion", "countLive", "()I"⟩, 13) := ⟨⟨by decide +kernel, by decide +kernel⟩, List.mem_of_getElem? (i := 24) (by decide +kernel), List.mem_of_getElem? (i := 247) (by decide +kernel), List.mem_of_getElem? (i := 248) (by decide +kernel)⟩
theorem lw_p4 : lw_okq (⟨"TrackFusion", "countSigns", "(C)I"⟩, 13) := ⟨⟨by decide +kernel, by decide +kernel⟩, List.mem_of_getElem? (i := 24) (by decide +kernel), List.mem_of_getElem? (i := 259) (by decide +kernel), List.mem_of_getElem? (i := 260) (by decide +kernel)⟩
theorem lw_p5 : lw_okq (⟨"java/lang/Throwable", "fillInStackTrace", "(I)Ljava/lang/Throwable;"⟩, 6) := ⟨⟨by decide +kernel, by decide +kernel⟩, List.mem_of_getElem? (i := 306) (by decide +kernel), List.mem_of_getElem? (i := 304) (by decide +kernel), List.mem_of_getElem? (i := 305) (by decide +kernel)⟩
theorem lw_p6 : lw_okq (⟨"TrackFusion", "clockOf", "(I)LTrackFusion$Clock;"⟩, 13) := ⟨⟨by decide +kernel, by decide +kernel⟩, List.mem_of_getElem? (i := 24) (by decide +kernel), List.mem_of_getElem? (i := 357) (by decide +kernel), List.mem_of_getElem? (i := 358) (by decide +kernel)⟩
theorem lw_p7 : lw_okq (⟨"TrackFusion", "changeTakers", "()I"⟩, 13) := ⟨⟨by decide +kernel, by decide +kernel⟩, List.mem_of_getElem? (i := 24) (by decide +kernel), List.mem_of_getElem? (i := 495) (by decide +kernel), List.mem_of_getElem? (i := 496) (by decide +kernel)⟩
theorem lw_p8 : lw_okq (⟨"TrackFusion$Track", "note", "(C)V"⟩, 12) := ⟨⟨by decide +kernel, by decide +kernel⟩, List.mem_of_getElem? (i := 515) (by decide +kernel), List.mem_of_getElem? (i := 513) (by decide +kernel), List.mem_of_getElem? (i := 514) (by decide +kernel)⟩
theorem lw_p9 : lw_okq (⟨"TrackFusion", "missOthers", "()V"⟩, 13) := ⟨⟨by decide +kernel, by decide +kernel⟩, List.mem_of_getElem? (i := 24) (by decide +kernel), List.mem_of_getElem? (i := 518) (by decide +kernel), List.mem_of_getElem? (i := 519) (by decide +kernel)⟩
theorem lw_p10 : lw_okq (⟨"TrackFusion", "beginTracks", "()V"⟩, 13) := ⟨⟨by decide +kernel, by decide +kernel⟩, List.mem_of_getElem? (i := 24) (by decide +kernel), List.mem_of_getElem? (i := 530) (by decide +kernel), List.mem_of_getElem? (i := 531) (by decide +kernel)⟩
theorem lw_p11 : lw_okq (⟨"TrackFusion", "mergeTracks", "()V"⟩, 13) := ⟨⟨by decide +kernel, by decide +kernel⟩, List.mem_of_getElem? (i := 24) (by decide +kernel), List.mem_of_getElem? (i := 588) (by decide +kernel), List.mem_of_getElem? (i := 589) (by decide +kernel)⟩
theorem lw_p12 : lw_okq (⟨"TrackFusion", "mergeLaterOnesInto", "(LTrackFusion$Track;)V"⟩, 13) := ⟨⟨by decide +kernel, by decide +kernel⟩, List.mem_of_getElem? (i := 24) (by decide +kernel), List.mem_of_getElem? (i := 592) (by decide +kernel), List.mem_of_getElem? (i := 593) (by decide +kernel)⟩
theorem lw_p13 : lw_okq (⟨"TrackFusion", "areNear", "(LTrackFusion$Track;LTrackFusion$Track;)Z"⟩, 13) := ⟨⟨by decide +kernel, by decide +kernel⟩, List.mem_of_getElem? (i := 24) (by decide +kernel), List.mem_of_getElem? (i := 596) (by decide +kernel), List.mem_of_getElem? (i := 597) (by decide +kernel)⟩
theorem lw_p14 : lw_okq (⟨"TrackFusion", "reportNumbered", "(I)LTrackFusion$Report;"⟩, 13) := ⟨⟨by decide +kernel, by decide +kernel⟩, List.mem_of_getElem? (i := 24) (by decide +kernel), List.mem_of_getElem? (i := 622) (by decide +kernel), List.mem_of_getElem? (i := 623) (by decide +kernel)⟩
theorem lw_p15 : lw_okq (⟨"TrackFusion", "liveNumbered", "(I)LTrackFusion$Track;"⟩, 13) := ⟨⟨by decide +kernel, by decide +kernel⟩, List.mem_of_getElem? (i := 24) (by decide +kernel), List.mem_of_getElem? (i := 627) (by decide +kernel), List.mem_of_getElem? (i := 628) (by decide +kernel)⟩
def lw_privs_1 : List (MethodName × Nat) := [(⟨"TrackFusion", "findBestMatching", "()V"⟩, 13), (⟨"TrackFusion", "prepareMatching", "()V"⟩, 13), (⟨"TrackFusion", "costOfTaking", "(LTrackFusion$Report;LTrackFusion$Track;)J"⟩, 13), (⟨"TrackFusion", "countLive", "()I"⟩, 13), (⟨"TrackFusion", "countSigns", "(C)I"⟩, 13), (⟨"java/lang/Throwable", "fillInStackTrace", "(I)Ljava/lang/Throwable;"⟩, 6), (⟨"TrackFusion", "clockOf", "(I)LTrackFusion$Clock;"⟩, 13), (⟨"TrackFusion", "changeTakers", "()I"⟩, 13), (⟨"TrackFusion$Track", "note", "(C)V"⟩, 12), (⟨"TrackFusion", "missOthers", "()V"⟩, 13), (⟨"TrackFusion", "beginTracks", "()V"⟩, 13), (⟨"TrackFusion", "mergeTracks", "()V"⟩, 13), (⟨"TrackFusion", "mergeLaterOnesInto", "(LTrackFusion$Track;)V"⟩, 13), (⟨"TrackFusion", "areNear", "(LTrackFusion$Track;LTrackFusion$Track;)Z"⟩, 13), (⟨"TrackFusion", "reportNumbered", "(I)LTrackFusion$Report;"⟩, 13), (⟨"TrackFusion", "liveNumbered", "(I)LTrackFusion$Track;"⟩, 13)]
theorem lw_r1 : ∀ q ∈ lw_privs_1, lw_okq q := List.forall_mem_cons.mpr ⟨lw_p0, List.forall_mem_cons.mpr ⟨lw_p1, List.forall_mem_cons.mpr ⟨lw_p2, List.forall_mem_cons.mpr ⟨lw_p3, List.forall_mem_cons.mpr ⟨lw_p4, List.forall_mem_cons.mpr ⟨lw_p5, List.forall_mem_cons.mpr ⟨lw_p6, List.forall_mem_cons.mpr ⟨lw_p7, List.forall_mem_cons.mpr ⟨lw_p8, List.forall_mem_cons.mpr ⟨lw_p9, List.forall_mem_cons.mpr ⟨lw_p10, List.forall_mem_cons.mpr ⟨lw_p11, List.forall_mem_cons.mpr ⟨lw_p12, List.forall_mem_cons.mpr ⟨lw_p13, List.forall_mem_cons.mpr ⟨lw_p14, List.forall_mem_cons.mpr ⟨lw_p15, fun _ h => absurd h List.not_mem_nil⟩⟩⟩⟩⟩⟩⟩⟩⟩⟩⟩⟩⟩⟩⟩⟩
theorem lw_p16 : lw_okq (⟨"TrackFusion", "trackNumbered", "(I)LTrackFusion$Track;"⟩, 13) := ⟨⟨by decide +kernel, by decide +kernel⟩, List.mem_of_getElem? (i := 24) (by decide +kernel), List.mem_of_getElem? (i := 668) (by decide +kernel), List.mem_of_getElem? (i := 669) (by decide +kernel)⟩
theorem lw_p17 : lw_okq (⟨"TrackFusionModel", "corrected", "(II)I"⟩, 22) := ⟨⟨by decide +kernel, by decide +kernel⟩, List.mem_of_getElem? (i := 872) (by decide +kernel), List.mem_of_getElem? (i := 974) (by decide +kernel), List.mem_of_getElem? (i := 975) (by decide +kernel)⟩
theorem lw_p18 : lw_okq (⟨"TrackFusionModel", "looks", "()V"⟩, 22) := ⟨⟨by decide +kernel, by decide +kernel⟩, List.mem_of_getElem? (i := 872) (by decide +kernel), List.mem_of_getElem? (i := 1016) (by decide +kernel), List.mem_of_getElem? (i := 1017) (by decide +kernel)⟩
theorem lw_p19 : lw_okq (⟨"TrackFusionModel", "tries", "(IJ)V"⟩, 22) := ⟨⟨by decide +kernel, by decide +kernel⟩, List.mem_of_getElem? (i := 872) (by decide +kernel), List.mem_of_getElem? (i := 1021) (by decide +kernel), List.mem_of_getElem? (i := 1022) (by decide +kernel)⟩
theorem lw_p20 : lw_okq (⟨"TrackFusionModel", "takes", "(II)Z"⟩, 22) := ⟨⟨by decide +kernel, by decide +kernel⟩, List.mem_of_getElem? (i := 872) (by decide +kernel), List.mem_of_getElem? (i := 1025) (by decide +kernel), List.mem_of_getElem? (i := 1026) (by decide +kernel)⟩
theorem lw_p21 : lw_okq (⟨"TrackFusionModel", "isLive", "(I)Z"⟩, 22) := ⟨⟨by decide +kernel, by decide +kernel⟩, List.mem_of_getElem? (i := 872) (by decide +kernel), List.mem_of_getElem? (i := 1029) (by decide +kernel), List.mem_of_getElem? (i := 1030) (by decide +kernel)⟩
theorem lw_p22 : lw_okq (⟨"TrackFusionModel", "of", "(II)I"⟩, 22) := ⟨⟨by decide +kernel, by decide +kernel⟩, List.mem_of_getElem? (i := 872) (by decide +kernel), List.mem_of_getElem? (i := 1033) (by decide +kernel), List.mem_of_getElem? (i := 1034) (by decide +kernel)⟩
theorem lw_p23 : lw_okq (⟨"TrackFusionModel", "distanceOf", "(II)J"⟩, 22) := ⟨⟨by decide +kernel, by decide +kernel⟩, List.mem_of_getElem? (i := 872) (by decide +kernel), List.mem_of_getElem? (i := 1037) (by decide +kernel), List.mem_of_getElem? (i := 1038) (by decide +kernel)⟩
theorem lw_p24 : lw_okq (⟨"TrackFusionModel", "residual", "(III)J"⟩, 22) := ⟨⟨by decide +kernel, by decide +kernel⟩, List.mem_of_getElem? (i := 872) (by decide +kernel), List.mem_of_getElem? (i := 1041) (by decide +kernel), List.mem_of_getElem? (i := 1042) (by decide +kernel)⟩
theorem lw_p25 : lw_okq (⟨"TrackFusionModel", "ahead", "(III)J"⟩, 22) := ⟨⟨by decide +kernel, by decide +kernel⟩, List.mem_of_getElem? (i := 872) (by decide +kernel), List.mem_of_getElem? (i := 1045) (by decide +kernel), List.mem_of_getElem? (i := 1046) (by decide +kernel)⟩
theorem lw_p26 : lw_okq (⟨"TrackFusionModel", "gateSquare", "()J"⟩, 22) := ⟨⟨by decide +kernel, by decide +kernel⟩, List.mem_of_getElem? (i := 872) (by decide +kernel), List.mem_of_getElem? (i := 1049) (by decide +kernel), List.mem_of_getElem? (i := 1050) (by decide +kernel)⟩
theorem lw_p27 : lw_okq (⟨"TrackFusionModel", "changes", "(II)V"⟩, 22) := ⟨⟨by decide +kernel, by decide +kernel⟩, List.mem_of_getElem? (i := 872) (by decide +kernel), List.mem_of_getElem? (i := 1054) (by decide +kernel), List.mem_of_getElem? (i := 1055) (by decide +kernel)⟩
theorem lw_p28 : lw_okq (⟨"TrackFusionModel", "lays", "(III)V"⟩, 22) := ⟨⟨by decide +kernel, by decide +kernel⟩, List.mem_of_getElem? (i := 872) (by decide +kernel), List.mem_of_getElem? (i := 1064) (by decide +kernel), List.mem_of_getElem? (i := 1065) (by decide +kernel)⟩
theorem lw_p29 : lw_okq (⟨"TrackFusionModel", "notes", "(IC)V"⟩, 22) := ⟨⟨by decide +kernel, by decide +kernel⟩, List.mem_of_getElem? (i := 872) (by decide +kernel), List.mem_of_getElem? (i := 1068) (by decide +kernel), List.mem_of_getElem? (i := 1069) (by decide +kernel)⟩
theorem lw_p30 : lw_okq (⟨"TrackFusionModel", "goesThere", "(I)Z"⟩, 22) := ⟨⟨by decide +kernel, by decide +kernel⟩, List.mem_of_getElem? (i := 872) (by decide +kernel), List.mem_of_getElem? (i := 1072) (by decide +kernel), List.mem_of_getElem? (i := 1073) (by decide +kernel)⟩
theorem lw_p31 : lw_okq (⟨"TrackFusionModel", "begins", "(I)V"⟩, 22) := ⟨⟨by decide +kernel, by decide +kernel⟩, List.mem_of_getElem? (i := 872) (by decide +kernel), List.mem_of_getElem? (i := 1076) (by decide +kernel), List.mem_of_getElem? (i := 1077) (by decide +kernel)⟩
def lw_privs_2 : List (MethodName × Nat) := [(⟨"TrackFusion", "trackNumbered", "(I)LTrackFusion$Track;"⟩, 13), (⟨"TrackFusionModel", "corrected", "(II)I"⟩, 22), (⟨"TrackFusionModel", "looks", "()V"⟩, 22), (⟨"TrackFusionModel", "tries", "(IJ)V"⟩, 22), (⟨"TrackFusionModel", "takes", "(II)Z"⟩, 22), (⟨"TrackFusionModel", "isLive", "(I)Z"⟩, 22), (⟨"TrackFusionModel", "of", "(II)I"⟩, 22), (⟨"TrackFusionModel", "distanceOf", "(II)J"⟩, 22), (⟨"TrackFusionModel", "residual", "(III)J"⟩, 22), (⟨"TrackFusionModel", "ahead", "(III)J"⟩, 22), (⟨"TrackFusionModel", "gateSquare", "()J"⟩, 22), (⟨"TrackFusionModel", "changes", "(II)V"⟩, 22), (⟨"TrackFusionModel", "lays", "(III)V"⟩, 22), (⟨"TrackFusionModel", "notes", "(IC)V"⟩, 22), (⟨"TrackFusionModel", "goesThere", "(I)Z"⟩, 22), (⟨"TrackFusionModel", "begins", "(I)V"⟩, 22)]
theorem lw_r2 : ∀ q ∈ lw_privs_2, lw_okq q := List.forall_mem_cons.mpr ⟨lw_p16, List.forall_mem_cons.mpr ⟨lw_p17, List.forall_mem_cons.mpr ⟨lw_p18, List.forall_mem_cons.mpr ⟨lw_p19, List.forall_mem_cons.mpr ⟨lw_p20, List.forall_mem_cons.mpr ⟨lw_p21, List.forall_mem_cons.mpr ⟨lw_p22, List.forall_mem_cons.mpr ⟨lw_p23, List.forall_mem_cons.mpr ⟨lw_p24, List.forall_mem_cons.mpr ⟨lw_p25, List.forall_mem_cons.mpr ⟨lw_p26, List.forall_mem_cons.mpr ⟨lw_p27, List.forall_mem_cons.mpr ⟨lw_p28, List.forall_mem_cons.mpr ⟨lw_p29, List.forall_mem_cons.mpr ⟨lw_p30, List.forall_mem_cons.mpr ⟨lw_p31, fun _ h => absurd h List.not_mem_nil⟩⟩⟩⟩⟩⟩⟩⟩⟩⟩⟩⟩⟩⟩⟩⟩
theorem lw_p32 : lw_okq (⟨"TrackFusionModel", "live", "()I"⟩, 22) := ⟨⟨by decide +kernel, by decide +kernel⟩, List.mem_of_getElem? (i := 872) (by decide +kernel), List.mem_of_getElem? (i := 1080) (by decide +kernel), List.mem_of_getElem? (i := 1081) (by decide +kernel)⟩
theorem lw_p33 : lw_okq (⟨"TrackFusionModel", "areNear", "(II)Z"⟩, 22) := ⟨⟨by decide +kernel, by decide +kernel⟩, List.mem_of_getElem? (i := 872) (by decide +kernel), List.mem_of_getElem? (i := 1084) (by decide +kernel), List.mem_of_getElem? (i := 1085) (by decide +kernel)⟩
theorem lw_p34 : lw_okq (⟨"TrackFusionModel", "isAsked", "(II)Z"⟩, 22) := ⟨⟨by decide +kernel, by decide +kernel⟩, List.mem_of_getElem? (i := 872) (by decide +kernel), List.mem_of_getElem? (i := 1098) (by decide +kernel), List.mem_of_getElem? (i := 1099) (by decide +kernel)⟩
theorem lw_p35 : lw_okq (⟨"TrackFusionModel", "isTrack", "(I)Z"⟩, 22) := ⟨⟨by decide +kernel, by decide +kernel⟩, List.mem_of_getElem? (i := 872) (by decide +kernel), List.mem_of_getElem? (i := 1102) (by decide +kernel), List.mem_of_getElem? (i := 1103) (by decide +kernel)⟩
theorem lw_p36 : lw_okq (⟨"TrackFusionModel", "isThere", "(I)Z"⟩, 22) := ⟨⟨by decide +kernel, by decide +kernel⟩, List.mem_of_getElem? (i := 872) (by decide +kernel), List.mem_of_getElem? (i := 1135) (by decide +kernel), List.mem_of_getElem? (i := 1136) (by decide +kernel)⟩
theorem lw_p37 : lw_okq (⟨"TrackFusionModel", "count", "(C)I"⟩, 22) := ⟨⟨by decide +kernel, by decide +kernel⟩, List.mem_of_getElem? (i := 872) (by decide +kernel), List.mem_of_getElem? (i := 1187) (by decide +kernel), List.mem_of_getElem? (i := 1188) (by decide +kernel)⟩
theorem lw_p38 : lw_okq (⟨"TrackFusionModel", "farness", "(IIII)J"⟩, 22) := ⟨⟨by decide +kernel, by decide +kernel⟩, List.mem_of_getElem? (i := 872) (by decide +kernel), List.mem_of_getElem? (i := 1195) (by decide +kernel), List.mem_of_getElem? (i := 1196) (by decide +kernel)⟩
def lw_privs_3 : List (MethodName × Nat) := [(⟨"TrackFusionModel", "live", "()I"⟩, 22), (⟨"TrackFusionModel", "areNear", "(II)Z"⟩, 22), (⟨"TrackFusionModel", "isAsked", "(II)Z"⟩, 22), (⟨"TrackFusionModel", "isTrack", "(I)Z"⟩, 22), (⟨"TrackFusionModel", "isThere", "(I)Z"⟩, 22), (⟨"TrackFusionModel", "count", "(C)I"⟩, 22), (⟨"TrackFusionModel", "farness", "(IIII)J"⟩, 22)]
theorem lw_r3 : ∀ q ∈ lw_privs_3, lw_okq q := List.forall_mem_cons.mpr ⟨lw_p32, List.forall_mem_cons.mpr ⟨lw_p33, List.forall_mem_cons.mpr ⟨lw_p34, List.forall_mem_cons.mpr ⟨lw_p35, List.forall_mem_cons.mpr ⟨lw_p36, List.forall_mem_cons.mpr ⟨lw_p37, List.forall_mem_cons.mpr ⟨lw_p38, fun _ h => absurd h List.not_mem_nil⟩⟩⟩⟩⟩⟩⟩
def lw_privs : List (MethodName × Nat) := lw_privs_1 ++ (lw_privs_2 ++ (lw_privs_3))
def lw_tbl : List Cond := k2_sels lw_privs ++ tables_1
theorem lw_privs_ok : ∀ q ∈ lw_privs, lw_okq q := by
  show ∀ q ∈ lw_privs_1 ++ (lw_privs_2 ++ (lw_privs_3)), lw_okq q
  exact List.forall_mem_append.mpr ⟨lw_r1, List.forall_mem_append.mpr ⟨lw_r2, lw_r3⟩⟩
/-- the streams that the claim lets the run draw from -/
abbrev lw_cs : List Choice := [Jvm.Choice.named "NaN.bits"]
theorem lw_bits : nanBits ∈ lw_cs := by first | decide | exact List.mem_cons_self | simp [lw_cs, nanBits]
end
section
/-! ===== BEGIN words of one list among another's, by their places ===== -/
theorem goodIn_r {big : List Cond} (ws : List Cond) (ps : List Nat) (hp : ws = ps.filterMap (fun i => big[i]?)) (h : ws.all goodWord = true) : GoodIn big ws := by
  intro w hw
  have h1 := List.all_eq_true.mp h w hw
  rw [hp] at hw
  obtain ⟨i, -, hi⟩ := List.mem_filterMap.mp hw
  have hm : w ∈ big := by first | exact List.mem_of_getElem? hi | exact List.getElem?_mem hi
  exact ⟨hm, good_of_word h1⟩
theorem goodIn_app {big a b : List Cond} (ha : GoodIn big a) (hb : GoodIn big b) : GoodIn big (a ++ b) := fun w h => (List.mem_append.mp h).elim (ha w) (hb w)
theorem goodIn_ca {big a b : List Cond} {c : Cond} (ha : GoodIn big (c :: a)) (hb : GoodIn big b) : GoodIn big (c :: (a ++ b)) := fun w h => (List.mem_cons.mp h).elim (fun e => ha w (List.mem_cons.mpr (Or.inl e))) (fun h => (List.mem_append.mp h).elim (fun h => ha w (List.mem_cons.mpr (Or.inr h))) (hb w))
theorem goodIn_sub {big ws : List Cond} (hm : ∀ w ∈ ws, w ∈ big) (h : ws.all goodWord = true) : GoodIn big ws := fun w hw => ⟨hm w hw, good_of_word (List.all_eq_true.mp h w hw)⟩
/-! ===== END ===== -/

/-! ===== BEGIN exceptions that leave a method, and their catching by the caller (launches without stack traces) ===== -/
section VXA
/-! The laws vx_back, vx_callV, vx_callS, vx_callSW, vx_throw0, vx_throwS follow proofs of the library, with one case more: JvmDerived/Free/Laws.lean (Back.of_free), Shelf42/LK1.lean (callV, callS), Shelf/KitTraced.lean (throwNew0V, throwNewS). -/
/-- where a method has thrown q: the class by its name, the cell, what was written, the world -/
def vx_T (XC : String → State → State → Prop) (st : State) (q : Addr) (t : State) (mc ms : Nat) (free : Addr → Prop) : Prop :=
  ∃ (E : String) (ce : Cell) (L : List Loc), XC E st t ∧ t.heap[q]? = some ce ∧ ce.vm = .none ∧ st.vm.findClass E = some ce.cls ∧ st.WarmedH t.vm ∧ st.sameButNew ({ t with vm := st.vm } : State) L mc ms ∧ ∀ z ∈ L, free z.base
def vx_Q (Qc : Array Value → State → Outcome → State → Prop) (XC : String → State → State → Prop) (mc ms : Nat) (free : Addr → Prop) : Array Value → State → Outcome → State → Prop := fun a st o t =>
  (Qc a st o t ∧ ∃ L, FrameEnd st o t L mc ms ∧ ∀ q ∈ L, free q.base) ∨ ∃ q, o = .threw q ∧ vx_T XC st q t mc ms free
/-- a callee that returns or throws -/
def vx_Met (l : Launch) (y : MethodName) (ws : List Cond) (rm : Room) (Pc : Array Value → State → Prop) (Qc : Array Value → State → Outcome → State → Prop) (XC : String → State → State → Prop) (mc ms : Nat) (free : Addr → Prop) : Prop :=
  MetFree l y (headSpec ws rm) Pc (fun _ _ _ _ _ => True) (vx_Q Qc XC mc ms free)
def vx_Post (XC : String → State → State → Prop) (mc ms : Nat) (free : Addr → Prop) : Pt → Array Value → Addr → Pt → Prop := fun A a q B =>
  ∃ (g : JFrame) (mk : MethodId) (t : State) (L : List Loc) (E : String) (ce : Cell), B.U.heap = t.heap ∧ B.U.vm = t.vm ∧ XC E (A.U.calling g mk a) t ∧ t.heap[q]? = some ce ∧ ce.vm = .none ∧ A.U.vm.findClass E = some ce.cls ∧ B.locs = A.locs ++ L ∧ (∀ z ∈ L, free z.base) ∧ B.cells = A.cells + mc ∧ B.slots = A.slots + ms
def vx_Back (l : Launch) (R : Room) (p : Program) (e : Env) (below : List Frame) (s : State) (sargs : Array Value) (y : MethodName) (len W9 : Nat)
    (Pre : Pt → Array Value → Prop) (Post : Pt → Array Value → Option Value → Pt → Prop) (PostX : Pt → Array Value → Addr → Pt → Prop) : Prop :=
  ∀ (m : MethodId) (meth : Method) (c : Code) (A : Pt) (g : JFrame) (ig : Instr) (mk : MethodId) (a : Array Value),
    Stand p l e R s m sargs below meth c A.U A.locs A.cells A.slots → g.method = m → g.locals.size = c.maxLocals → decode c.code g.pc = .ok (ig, len) →
    2 * g.monitorRoom + (g.stack.map fun v => v.category).sum ≤ W9 → A.U.methodNamed? y = some mk → Pre A a →
    (∃ (v : Option Value) (B : Pt), Stand p l e R s m sargs below meth c B.U B.locs B.cells B.slots ∧ Post A a v B ∧
      Steps p.tables e below (doInvoke e (A.U.setTop g) [] mk a).1 (B.U.setTop { g with pc := g.pc + len, stack := v.toList ++ g.stack })) ∨
    (∃ (q : Addr) (B : Pt), Stand p l e R s m sargs below meth c B.U B.locs B.cells B.slots ∧ PostX A a q B ∧
      Steps p.tables e below (doInvoke e (A.U.setTop g) [] mk a).1 ((B.U.setTop g).pushFrame (.throwing q)))
section Payer
variable {l : Launch} {R : Room} {p : Program} {e : Env} {below : List Frame} {s : State} {sargs : Array Value} {y : MethodName} {len W9 : Nat}
theorem vx_back {ws : List Cond} {rm : Room} {Pc : Array Value → State → Prop} {Qc : Array Value → State → Outcome → State → Prop} {XC : String → State → State → Prop} {mc ms : Nat} {free : Addr → Prop} {bytes : ByteArray} {maxL : Nat} {ret : Option FieldType}
    (hM : vx_Met l y ws rm Pc Qc XC mc ms free) (hblind : FrameBlind Pc) (hrc : rm.cells = mc) (hrs : rm.slots = ms)
    (hframes : rm.frames + 1 ≤ R.frames) (hlocals : W9 + (maxL + 11) + rm.locals ≤ R.locals)
    (hws : ∀ w ∈ ws, ∀ a' U, s.WarmedH U.vm → w.before a' U = true) (hcode : Cond.code y bytes maxL ret ∈ ws) (hinit : ∀ a' U, s.WarmedH U.vm → (Cond.initialized y.cls).before a' U = true) :
    vx_Back l R p e below s sargs y len W9 (PreOf R mc ms Pc) (PostOf Qc mc ms free) (vx_Post XC mc ms free) := by
  intro m meth c A g ig mk a X hg hsize hdg hW hn hp
  have h1 : (headSpec ws rm).pre.before a A.U = true := atoms_intro fun w hw => hws w hw _ _ X.warmed
  have h2 : (Cond.code y bytes maxL ret).before a A.U = true := hws _ hcode _ _ X.warmed
  have h3 : (Cond.initialized y.cls).before a A.U = true := hinit _ _ X.warmed
  have h4 : A.cells + (headSpec ws rm).room.cells ≤ R.cells := by rw [show (headSpec ws rm).room.cells = mc from hrc]; exact hp.1
  have h5 : A.slots + (headSpec ws rm).room.slots ≤ R.slots := by rw [show (headSpec ws rm).room.slots = ms from hrs]; exact hp.2.1
  have hPc : Pc a (A.U.calling g mk a) := hblind _ _ _ _ hp.2.2
  obtain ⟨U, Ls, c0, s0⟩ := A
  dsimp only [Pt.U, Pt.locs, Pt.cells, Pt.slots] at h1 h2 h3 h4 h5 X hn hPc ⊢
  obtain ⟨methY, cY, hmY, hcY, -, hlY, -, -, -, -⟩ := Cond.code_spec hn h2
  obtain ⟨kY, hkY, -⟩ := className_of_methodNamed hn
  have hinitY : kY.init = .initialized := Cond.initialized_spec (findClass_of_methodNamed hn) hkY h3
  have h : At U g.method c below := by rw [hg]; exact X.here
  have hlocals9 : W9 + (maxL + 11) + (headSpec ws rm).room.locals ≤ R.locals := hlocals
  have happ : (headSpec ws rm).appliesLoose y e.platform (U.calling g mk a) = true :=
    Spec.appliesLoose_calling (g := g) h hdg hn hkY hinitY
      (X.room_calling (g := g) (R' := (headSpec ws rm).room) hsize hmY hcY hframes (by rw [hlY]; omega) h4 h5) h1
  obtain ⟨mid, hmid⟩ := h.above
  have hfr : (U.setTop g).frames = (.java g :: mid) ++ below := by rw [State.frames_setTop' g h.top, hmid]; rfl
  obtain ⟨o, s₂, hsteps, -, hend, hq⟩ := Steps.callFree hM p X.admits X.cas X.clock (acts := []) hfr happ hPc trivial
  have hq' : vx_Q Qc XC mc ms free a (U.calling g mk a) o s₂ := hq
  rw [State.frames_setTop' g h.top] at hend
  obtain ⟨g₀, hg0⟩ := Option.isSome_iff_exists.mp h.top
  obtain ⟨r, hr⟩ := State.topJava?_eq_some.mp hg0
  have hr' : (({ U with heap := s₂.heap, slotsUsed := s₂.slotsUsed } : State).setVm s₂.vm).frames = .java g₀ :: r := hr
  rcases hq' with ⟨hqc, L, hfe, hL⟩ | ⟨q, rfl, E, ce, L, hx, hce, hcv, hcl, hW₂, hsm, hL⟩
  · obtain ⟨⟨v, rfl⟩, hW₂, e2, q2, q3, q4, q5, q6⟩ := id hfe
    have e3 : s₂ = ({ (U.calling g mk a).setFrames s₂.frames with heap := s₂.heap, slotsUsed := s₂.slotsUsed } : State).setVm s₂.vm := by
      have : s₂ = ({ s₂ with vm := (U.calling g mk a).vm } : State).setVm s₂.vm := rfl
      rw [e2] at this
      exact this
    obtain ⟨c₂, i₂, len₂, hc₂, hd₂, hf₂⟩ := hend
    have hW' : U.WarmedH s₂.vm := hW₂
    have hcc : c₂ = c := by
      have h1 : s₂.code? g.method = U.code? g.method := by
        rw [State.code?_eq, State.code?_eq, hW'.alike.method?]
      exact Option.some.inj (hc₂.symm.trans (h1.trans h.code))
    subst hcc
    have hlen : len₂ = len := by rw [hdg] at hd₂; cases hd₂; rfl
    subst hlen
    have hs₂ : s₂ = (({ U with heap := s₂.heap, slotsUsed := s₂.slotsUsed } : State).setVm s₂.vm).setTop { g with pc := g.pc + len₂, stack := v.toList ++ g.stack } := by
      refine e3.trans ?_
      rw [hf₂, State.calling_eq h.top, State.setFrames_setFrames, State.setTop_of_frames _ hr', hr]
      rfl
    have hsame : U.sameButNew ({ U with heap := s₂.heap, slotsUsed := s₂.slotsUsed } : State) L mc ms := by
      refine ⟨?_, q2, q3, q4, q5, q6⟩
      obtain ⟨t, ht, -⟩ := State.frames_cons hr
      show ({ U with heap := s₂.heap, slotsUsed := s₂.slotsUsed } : State) = { U.setFrames U.frames with heap := s₂.heap, slotsUsed := s₂.slotsUsed }
      rw [State.setFrames_self ht]
    subst hg
    refine Or.inl ⟨v, ⟨(({ U with heap := s₂.heap, slotsUsed := s₂.slotsUsed } : State).setVm s₂.vm), Ls ++ L, c0 + mc, s0 + ms⟩,
      ⟨X.admits, X.cas, X.clock, X.frames, X.room, X.hears, X.method, X.code, (X.here.setHeapUsed s₂.heap s₂.slotsUsed).setVm hW'.alike, X.tail, State.WarmedH.trans X.warmed hW', X.limits, X.bytes, X.same.trans (hsame.setVm s.vm)⟩,
      ⟨g, mk, s₂, L, rfl, rfl, hqc, rfl, hL, rfl, rfl⟩, ?_⟩
    show Steps p.tables e below _ ((({ U with heap := s₂.heap, slotsUsed := s₂.slotsUsed } : State).setVm s₂.vm).setTop { g with pc := g.pc + len₂, stack := v.toList ++ g.stack })
    rw [← hs₂]
    exact hsteps
  · obtain ⟨e2, q2, q3, q4, q5, q6⟩ := id hsm
    have e3 : s₂ = ({ (U.calling g mk a).setFrames s₂.frames with heap := s₂.heap, slotsUsed := s₂.slotsUsed } : State).setVm s₂.vm := by
      have : s₂ = ({ s₂ with vm := (U.calling g mk a).vm } : State).setVm s₂.vm := rfl
      rw [e2] at this
      exact this
    have hf₂ : s₂.frames = .throwing q :: .java g :: U.frames.tail := hend
    have hW' : U.WarmedH s₂.vm := hW₂
    have hs₂ : s₂ = ((({ U with heap := s₂.heap, slotsUsed := s₂.slotsUsed } : State).setVm s₂.vm).setTop g).pushFrame (.throwing q) := by
      refine e3.trans ?_
      rw [hf₂, State.calling_eq h.top, State.setFrames_setFrames, State.pushFrame, State.frames_setTop _ hr', State.setTop_of_frames _ hr', State.setFrames_setFrames, hr]
      rfl
    have hsame : U.sameButNew ({ U with heap := s₂.heap, slotsUsed := s₂.slotsUsed } : State) L mc ms := by
      refine ⟨?_, q2, q3, q4, q5, q6⟩
      obtain ⟨t, ht, -⟩ := State.frames_cons hr
      show ({ U with heap := s₂.heap, slotsUsed := s₂.slotsUsed } : State) = { U.setFrames U.frames with heap := s₂.heap, slotsUsed := s₂.slotsUsed }
      rw [State.setFrames_self ht]
    subst hg
    refine Or.inr ⟨q, ⟨(({ U with heap := s₂.heap, slotsUsed := s₂.slotsUsed } : State).setVm s₂.vm), Ls ++ L, c0 + mc, s0 + ms⟩,
      ⟨X.admits, X.cas, X.clock, X.frames, X.room, X.hears, X.method, X.code, (X.here.setHeapUsed s₂.heap s₂.slotsUsed).setVm hW'.alike, X.tail, State.WarmedH.trans X.warmed hW', X.limits, X.bytes, X.same.trans (hsame.setVm s.vm)⟩,
      ⟨g, mk, s₂, L, E, ce, rfl, rfl, hx, hce, hcv, hcl, rfl, hL, rfl, rfl⟩, ?_⟩
    show Steps p.tables e below _ (((({ U with heap := s₂.heap, slotsUsed := s₂.slotsUsed } : State).setVm s₂.vm).setTop g).pushFrame (.throwing q))
    rw [← hs₂]
    exact hsteps
end Payer
section Calls
variable {p : Program} {l : Launch} {e : Env} {R : Room} {s : State} {m : MethodId} {args : Array Value} {below : List Frame} {meth : Method} {c : Code} {T : State} {locs : List Loc} {cells slots : Nat}
theorem vx_callV (X : Stand p l e R s m args below meth c T locs cells slots) (hexec : p.tables.exec = Jvm.exec) {own C : String} {index : Nat} {y : MethodName} {bytes : ByteArray} {maxL : Nat} {ret : Option FieldType}
    (hown : s.vm.findClass own = some m.cls) (hlink : (Cond.methodLink own index y).before args s = true) (hinst : (Cond.instanceMethod y).before args s = true) (hsel : (Cond.selects C y y).before args s = true)
    (hcode : (Cond.code y bytes maxL ret).before args s = true) (hy : y.cls ≠ "java/lang/invoke/MethodHandle" ∧ y.cls ≠ "java/lang/invoke/VarHandle")
    {W9 : Nat} {Pre : Pt → Array Value → Prop} {Post : Pt → Array Value → Option Value → Pt → Prop} {PostX : Pt → Array Value → Addr → Pt → Prop} (hK : vx_Back l R p e below s args y 3 W9 Pre Post PostX)
    {b : Addr} {cellB : Cell} (hcell : T.heap[b]? = some cellB) (hobj : cellB.vm.isStatics = false) (hcls : s.vm.findClass C = some cellB.cls)
    {g : JFrame} (hg : g.method = m) (hsize : g.locals.size = c.maxLocals) {argsL rest : List Value} (hlen : ∀ sig, parseMethodDescriptor y.desc = some sig → argsL.length = sig.parameters.length)
    (hstack : g.stack = argsL.reverse ++ .ref b :: rest) (hW : 2 * g.monitorRoom + (rest.map fun v => v.category).sum ≤ W9) (hdg : decode c.code g.pc = .ok (.invokevirtual index, 3))
    (hpre : ∀ vm₁, s.WarmedH vm₁ → Pre ⟨T.setVm vm₁, locs, cells, slots⟩ (Value.ref b :: argsL).toArray) :
    (∃ (v : Option Value) (vm₁ : Vm) (B : Pt), s.WarmedH vm₁ ∧ Stand p l e R s m args below meth c B.U B.locs B.cells B.slots ∧ Post ⟨T.setVm vm₁, locs, cells, slots⟩ (Value.ref b :: argsL).toArray v B ∧
      ∀ target, Steps p.tables e below (B.U.setTop { g with pc := g.pc + 3, stack := v.toList ++ rest }) target → Steps p.tables e below (T.setTop g) target) ∨
    (∃ (q : Addr) (vm₁ : Vm) (B : Pt), s.WarmedH vm₁ ∧ Stand p l e R s m args below meth c B.U B.locs B.cells B.slots ∧ PostX ⟨T.setVm vm₁, locs, cells, slots⟩ (Value.ref b :: argsL).toArray q B ∧
      Steps p.tables e below (T.setTop g) ((B.U.setTop { g with stack := rest }).pushFrame (.throwing q))) := by
  obtain ⟨mk, methM, hnamed, hmethM, hstM, habM⟩ := Cond.instanceMethod_spec hinst
  obtain ⟨methM', cM, hmethM', -, -, -, -, -, -, hsigM⟩ := Cond.code_spec hnamed hcode
  cases hmethM.symm.trans hmethM'
  obtain ⟨c2, r2, m2, q1, q2, q3, q4, kP, hkP, hkPi⟩ := Cond.selects_spec hsel
  cases hcls.symm.trans q1
  cases (State.methodFound?_of_named hnamed hy).symm.trans q2
  cases hnamed.symm.trans q3
  have hselP : selectMethod e.platform s.vm cellB.cls mk = .method mk := by rw [Launch.admits_selectMethod X.admits]; exact q4
  obtain ⟨vm₁, X₁, hstep₁⟩ := X.invokevirtual hexec hown hlink hnamed hmethM hstM hkP hkPi hy (a := b) (cell := cellB) hcell
    (fun z h => by rw [h] at hobj; cases hobj) hselP hmethM habM hkP hkPi (g := g) hg (argsL := argsL) (rest := rest) (hlen _ hsigM) hstack hdg
  rcases hK m meth c ⟨T.setVm vm₁, locs, cells, slots⟩ { g with stack := rest } (.invokevirtual index) mk (Value.ref b :: argsL).toArray X₁ hg hsize hdg hW (X₁.named hnamed) (hpre vm₁ X₁.warmed) with ⟨v, B, X', hpost, hsteps⟩ | ⟨q, B, X', hpost, hsteps⟩
  · exact Or.inl ⟨v, vm₁, B, X₁.warmed, X', hpost, fun target h => hstep₁ _ fun acts => by rw [doInvoke_state]; exact hsteps.trans h⟩
  · exact Or.inr ⟨q, vm₁, B, X₁.warmed, X', hpost, hstep₁ _ fun acts => by rw [doInvoke_state]; exact hsteps⟩
theorem vx_callS (X : Stand p l e R s m args below meth c T locs cells slots) (hexec : p.tables.exec = Jvm.exec) {own : String} {index : Nat} {y : MethodName} {bytes : ByteArray} {maxL : Nat} {ret : Option FieldType}
    (hown : s.vm.findClass own = some m.cls) (hlink : (Cond.methodLink own index y).before args s = true) (hstat : (Cond.static y).before args s = true) (hinit : (Cond.initialized y.cls).before args s = true)
    (hcode : (Cond.code y bytes maxL ret).before args s = true) (hy : y.cls ≠ "java/lang/invoke/MethodHandle" ∧ y.cls ≠ "java/lang/invoke/VarHandle")
    {W9 : Nat} {Pre : Pt → Array Value → Prop} {Post : Pt → Array Value → Option Value → Pt → Prop} {PostX : Pt → Array Value → Addr → Pt → Prop} (hK : vx_Back l R p e below s args y 3 W9 Pre Post PostX)
    {g : JFrame} (hg : g.method = m) (hsize : g.locals.size = c.maxLocals) {argsL rest : List Value} (hlen : ∀ sig, parseMethodDescriptor y.desc = some sig → argsL.length = sig.parameters.length)
    (hstack : g.stack = argsL.reverse ++ rest) (hW : 2 * g.monitorRoom + (rest.map fun v => v.category).sum ≤ W9) (hdg : decode c.code g.pc = .ok (.invokestatic index, 3))
    (hpre : ∀ vm₁, s.WarmedH vm₁ → Pre ⟨T.setVm vm₁, locs, cells, slots⟩ argsL.toArray) :
    (∃ (v : Option Value) (vm₁ : Vm) (B : Pt), s.WarmedH vm₁ ∧ Stand p l e R s m args below meth c B.U B.locs B.cells B.slots ∧ Post ⟨T.setVm vm₁, locs, cells, slots⟩ argsL.toArray v B ∧
      ∀ target, Steps p.tables e below (B.U.setTop { g with pc := g.pc + 3, stack := v.toList ++ rest }) target → Steps p.tables e below (T.setTop g) target) ∨
    (∃ (q : Addr) (vm₁ : Vm) (B : Pt), s.WarmedH vm₁ ∧ Stand p l e R s m args below meth c B.U B.locs B.cells B.slots ∧ PostX ⟨T.setVm vm₁, locs, cells, slots⟩ argsL.toArray q B ∧
      Steps p.tables e below (T.setTop g) ((B.U.setTop { g with stack := rest }).pushFrame (.throwing q))) := by
  obtain ⟨mk, hnamed⟩ := Cond.code_named hcode
  obtain ⟨methM, cM, hmethM, -, -, -, -, -, -, hsigM⟩ := Cond.code_spec hnamed hcode
  have hstatic : methM.isStatic = true := Cond.static_spec hnamed hmethM hstat
  obtain ⟨kP, hkP, -⟩ := className_of_methodNamed hnamed
  have hinitP : kP.init = .initialized := Cond.initialized_spec (findClass_of_methodNamed hnamed) hkP hinit
  obtain ⟨vm₁, X₁, hstep₁⟩ := X.invokestatic hexec hown hlink hnamed hmethM hstatic hkP hinitP hy (g := g) hg (argsL := argsL) (rest := rest) (hlen _ hsigM) hstack hdg
  rcases hK m meth c ⟨T.setVm vm₁, locs, cells, slots⟩ { g with stack := rest } (.invokestatic index) mk argsL.toArray X₁ hg hsize hdg hW (X₁.named hnamed) (hpre vm₁ X₁.warmed) with ⟨v, B, X', hpost, hsteps⟩ | ⟨q, B, X', hpost, hsteps⟩
  · exact Or.inl ⟨v, vm₁, B, X₁.warmed, X', hpost, fun target h => hstep₁ _ fun acts => by rw [doInvoke_state]; exact hsteps.trans h⟩
  · exact Or.inr ⟨q, vm₁, B, X₁.warmed, X', hpost, hstep₁ _ fun acts => by rw [doInvoke_state]; exact hsteps⟩
end Calls
theorem vx_cls {s : State} {T : State} {vm₁ : Vm} {E : String} {k : ClassId} (hW : s.WarmedH vm₁) (h : (T.setVm vm₁).vm.findClass E = some k) : s.vm.findClass E = some k := by
  have h1 : vm₁.findClass E = some k := h
  rw [hW.alike.findClass] at h1
  exact h1
/-- the method's frame g, with q thrown over it -/
def vx_W (p : Program) (l : Launch) (e : Env) (R : Room) (s : State) (m : MethodId) (args : Array Value) (below : List Frame) (meth : Method) (c : Code) (H : Heap) (locs : List Loc) (cells slots : Nat) (Q : State → Prop) (g : JFrame) (q : Addr) : Prop :=
  ∀ T : State, T.heap = H → Stand p l e R s m args below meth c T locs cells slots → ∃ t, Steps p.tables e below ((T.setTop g).pushFrame (.throwing q)) t ∧ Q t
def vx_Run (p : Program) (l : Launch) (e : Env) (R : Room) (s : State) (m : MethodId) (args : Array Value) (below : List Frame) (meth : Method) (c : Code) (H : Heap) (locs : List Loc) (cells slots mc ms : Nat) (g : JFrame) (rest : List Value) (Qa : State → Outcome → State → Prop) (XC : String → State → State → Prop) (free : Addr → Prop) : Prop :=
  ∀ T : State, T.heap = H → Stand p l e R s m args below meth c T locs cells slots →
    (∃ (v : Option Value) (st₀ t T' : State) (L : List Loc), st₀.heap = H ∧ Stand p l e R s m args below meth c T' (locs ++ L) (cells + mc) (slots + ms) ∧ (∀ q ∈ L, free q.base) ∧ T'.heap = t.heap ∧ T'.vm = t.vm ∧ Qa st₀ (.returned v) t ∧
      Goes p e below T g T' { g with pc := g.pc + 3, stack := v.toList ++ rest }) ∨
    (∃ (q : Addr) (st₀ t T' : State) (L : List Loc) (E : String) (ce : Cell), st₀.heap = H ∧ Stand p l e R s m args below meth c T' (locs ++ L) (cells + mc) (slots + ms) ∧ (∀ z ∈ L, free z.base) ∧ T'.heap = t.heap ∧ T'.vm = t.vm ∧ XC E st₀ t ∧ t.heap[q]? = some ce ∧ ce.vm = .none ∧ s.vm.findClass E = some ce.cls ∧
      Steps p.tables e below (T.setTop g) ((T'.setTop { g with stack := rest }).pushFrame (.throwing q)))
def vx_X {S : Type} (px : S → Prop) (B : String → S → State → Prop) (A : Nat → Prop) : String → State → State → Prop := fun E st t => ∃ u : S, px u ∧ B E u t ∧ va_F A st t
section Runs
variable {p : Program} {l : Launch} {e : Env} {R : Room} {s : State} {m : MethodId} {args : Array Value} {below : List Frame} {meth : Method} {c : Code} {H : Heap} {locs : List Loc} {cells slots : Nat}
variable {y : MethodName} {bytes cc : ByteArray} {maxL nL mc ms n index : Nat} {ret : Option FieldType} {ws : List Cond} {rm : Room} {Pc : Array Value → State → Prop} {Qc : Array Value → State → Outcome → State → Prop} {XC : String → State → State → Prop} {free : Addr → Prop} {Ts : List Cond} {own C : String} {b : Addr} {As rest : List Value} {g : JFrame}
theorem vx_callBack (cb : CallB R s args own index y bytes maxL ret ws rm mc ms n) (hM : vx_Met l y ws rm Pc Qc XC mc ms free) (hbl : FrameBlind Pc) : vx_Back l R p e below s args y 3 8 (PreOf R mc ms Pc) (PostOf Qc mc ms free) (vx_Post XC mc ms free) := by
  obtain ⟨hrc, hrs, hfr, hlo, hws, hcw, -, hini, -⟩ := cb
  exact vx_back (bytes := bytes) (maxL := maxL) (ret := ret) hM hbl hrc hrs hfr hlo hws hcw (fun a' U hW => word_at hW (Or.inl (by first | rfl | simp [Cond.onTables, Cond.keeps, Cond.steady])) hini)
theorem vx_runV (S : CallFix p m c cc nL s args Ts own) (hM : vx_Met l y ws rm Pc Qc XC mc ms free) (cw : CallW R s args own C index y bytes maxL ret ws rm mc ms n) (hp : PreV s H C b Pc As)
    (hg : g.method = m) (hn : As.length = n) (hsize : g.locals.size = nL) (hstack : g.stack = As.reverse ++ .ref b :: rest) (hW : 2 * g.monitorRoom + (rest.map fun v => v.category).sum ≤ 8) (hdg : decode cc g.pc = .ok (.invokevirtual index, 3)) (hf : cells + mc ≤ R.cells ∧ slots + ms ≤ R.slots) :
    vx_Run p l e R s m args below meth c H locs cells slots mc ms g rest (Qc (Value.ref b :: As).toArray) XC free := by
  have hK : vx_Back l R p e below s args y 3 8 (PreOf R mc ms Pc) (PostOf Qc mc ms free) (vx_Post XC mc ms free) := vx_callBack cw.1 hM hp.1
  obtain ⟨⟨-, -, -, -, -, -, hcode, -, hy, hlen, hl⟩, hin, hse⟩ := cw
  obtain ⟨hx, hb, hml, ho, -⟩ := S
  obtain ⟨-, ⟨cellB, hcB, hoB, hclB⟩, hPc⟩ := hp
  intro T hT X
  rcases vx_callV X hx (C := C) (bytes := bytes) (maxL := maxL) (ret := ret) ho hl hin hse hcode hy hK (by rw [hT]; exact hcB) hoB hclB hg (hsize.trans hml.symm) (argsL := As) (rest := rest) (fun sig h => hn.trans (hlen sig h)) hstack hW (by rw [hb]; exact hdg)
    (fun vm₁ hW₁ => ⟨hf.1, hf.2, hPc (T.setVm vm₁) hT hW₁⟩) with ⟨v, vm₁, ⟨U', l2, c2, s2⟩, hW₁, X', ⟨g', mk, t, L, e1, e2, hq, h1, hL, h2, h3⟩, st⟩ | ⟨q, vm₁, ⟨U', l2, c2, s2⟩, hW₁, X', ⟨g', mk, t, L, E, ce, e1, e2, hq, hce, hcv, hcl, h1, hL, h2, h3⟩, st⟩
  · dsimp only [Pt.U, Pt.locs, Pt.cells, Pt.slots] at X' e1 e2 h1 h2 h3 st
    subst h1; subst h2; subst h3
    exact Or.inl ⟨v, (T.setVm vm₁).calling g' mk (Value.ref b :: As).toArray, t, U', L, hT, X', hL, e1, e2, hq, st⟩
  · dsimp only [Pt.U, Pt.locs, Pt.cells, Pt.slots] at X' e1 e2 h1 h2 h3 st hcl
    subst h1; subst h2; subst h3
    exact Or.inr ⟨q, (T.setVm vm₁).calling g' mk (Value.ref b :: As).toArray, t, U', L, E, ce, hT, X', hL, e1, e2, hq, hce, hcv, vx_cls hW₁ hcl, st⟩
theorem vx_runS (S : CallFix p m c cc nL s args Ts own) (hM : vx_Met l y ws rm Pc Qc XC mc ms free) (cw : CallB R s args own index y bytes maxL ret ws rm mc ms n ∧ (Cond.static y).before args s = true) (hp : PreS s H Pc As)
    (hg : g.method = m) (hn : As.length = n) (hsize : g.locals.size = nL) (hstack : g.stack = As.reverse ++ rest) (hW : 2 * g.monitorRoom + (rest.map fun v => v.category).sum ≤ 8) (hdg : decode cc g.pc = .ok (.invokestatic index, 3)) (hf : cells + mc ≤ R.cells ∧ slots + ms ≤ R.slots) :
    vx_Run p l e R s m args below meth c H locs cells slots mc ms g rest (Qc As.toArray) XC free := by
  have hK : vx_Back l R p e below s args y 3 8 (PreOf R mc ms Pc) (PostOf Qc mc ms free) (vx_Post XC mc ms free) := vx_callBack cw.1 hM hp.1
  obtain ⟨⟨-, -, -, -, -, -, hcode, hini, hy, hlen, hl⟩, hstt⟩ := cw
  obtain ⟨hx, hb, hml, ho, -⟩ := S
  intro T hT X
  rcases vx_callS X hx (bytes := bytes) (maxL := maxL) (ret := ret) ho hl hstt hini hcode hy hK hg (hsize.trans hml.symm) (argsL := As) (rest := rest) (fun sig h => hn.trans (hlen sig h)) hstack hW (by rw [hb]; exact hdg)
    (fun vm₁ hW₁ => ⟨hf.1, hf.2, hp.2 (T.setVm vm₁) hT hW₁⟩) with ⟨v, vm₁, ⟨U', l2, c2, s2⟩, hW₁, X', ⟨g', mk, t, L, e1, e2, hq, h1, hL, h2, h3⟩, st⟩ | ⟨q, vm₁, ⟨U', l2, c2, s2⟩, hW₁, X', ⟨g', mk, t, L, E, ce, e1, e2, hq, hce, hcv, hcl, h1, hL, h2, h3⟩, st⟩
  · dsimp only [Pt.U, Pt.locs, Pt.cells, Pt.slots] at X' e1 e2 h1 h2 h3 st
    subst h1; subst h2; subst h3
    exact Or.inl ⟨v, (T.setVm vm₁).calling g' mk As.toArray, t, U', L, hT, X', hL, e1, e2, hq, st⟩
  · dsimp only [Pt.U, Pt.locs, Pt.cells, Pt.slots] at X' e1 e2 h1 h2 h3 st hcl
    subst h1; subst h2; subst h3
    exact Or.inr ⟨q, (T.setVm vm₁).calling g' mk As.toArray, t, U', L, E, ce, hT, X', hL, e1, e2, hq, hce, hcv, vx_cls hW₁ hcl, st⟩
end Runs
section Rows
variable {p : Program} {l : Launch} {e : Env} {R : Room} {s : State} {m : MethodId} {args : Array Value} {below : List Frame} {meth : Method} {c : Code} {H : Heap} {locs : List Loc} {cells slots : Nat} {Q : State → Prop}
variable {mc ms : Nat} {free : Addr → Prop} {A0 A1 : Nat → Prop} {H0 : Heap} {a : Array Value} {pc : Nat} {ls : Array Slot} {st0 rest : List Value}
theorem vx_keep {st₀ t T' : State} {L : List Loc} (h0 : st₀.heap = H) (e1 : T'.heap = t.heap) (hS : va_S A0 H0 H locs) (hA : ∀ q, q < H.size → A1 q → A0 q) (hf : ∀ q, free q → A0 q) (hL : ∀ q ∈ L, free q.base) (hF : va_F A1 st₀ t) :
    H.size ≤ T'.heap.size ∧ (∀ q : Nat, q < H.size → ¬ A1 q → T'.heap[q]? = H[q]?) ∧ va_S A0 H0 T'.heap (locs ++ L) := by
  obtain ⟨hz, hk⟩ := hF
  rw [h0] at hz hk
  exact ⟨by rw [e1]; exact hz, fun q h1 h2 => by rw [e1]; exact hk q h1 h2,
    ⟨Nat.le_trans hS.1 (by rw [e1]; exact hz), fun q h1 h2 => by rw [e1, hk q (Nat.lt_of_lt_of_le h1 hS.1) (fun z => h2 (hA q (Nat.lt_of_lt_of_le h1 hS.1) z))]; exact hS.2.1 q h1 h2, fun q hq => by
      rcases List.mem_append.mp hq with h | h
      · exact hS.2.2 q h
      · exact hf _ (hL q h)⟩⟩
theorem vx_calli {S SX : Type} {post : Int32 → S → Prop} {px : SX → Prop} {B : S → State → Prop} {BX : String → SX → State → Prop} {AX : Nat → Prop} (hr : vx_Run p l e R s m args below meth c H locs cells slots mc ms (F0 m pc ls st0) rest (va_Qi post B A1 a) (vx_X px BX AX) free) (hS : va_S A0 H0 H locs) (hA : ∀ q, q < H.size → A1 q → A0 q) (hf : ∀ q, free q → A0 q) (hAX : ∀ q, q < H.size → AX q → A0 q)
    (kx : ∀ (E : String) (ce : Cell) (q9 : Addr) (u : SX) (t : State) (H1 : Heap) (locs1 : List Loc), t.heap = H1 → s.vm.Alike t.vm → px u → BX E u t → H.size ≤ H1.size → (∀ q : Nat, q < H.size → ¬ AX q → H1[q]? = H[q]?) → va_S A0 H0 H1 locs1 → H1[q9]? = some ce → ce.vm = .none → s.vm.findClass E = some ce.cls → vx_W p l e R s m args below meth c H1 locs1 (cells + mc) (slots + ms) Q (F0 m pc ls rest) q9)
    (kk : ∀ (r : Int32) (u : S) (t : State) (H1 : Heap) (locs1 : List Loc), t.heap = H1 → s.vm.Alike t.vm → post r u → B u t → H.size ≤ H1.size → (∀ q : Nat, q < H.size → ¬ A1 q → H1[q]? = H[q]?) → va_S A0 H0 H1 locs1 → W p l e R s m args below meth c H1 locs1 (cells + mc) (slots + ms) Q (F0 m (pc + 3) ls (.int r :: rest))) : W p l e R s m args below meth c H locs cells slots Q (F0 m pc ls st0) := by
  intro T hT X
  rcases hr T hT X with ⟨v, st₀, t, T', L, h0, X', hL, e1, e2, ⟨⟨r, u, hv, hp, hb⟩, hF⟩, st⟩ | ⟨q, st₀, t, T', L, E, ce, h0, X', hL, e1, e2, ⟨u, hp, hb, hF⟩, hce, hcv, hcl, st⟩
  · cases hv
    obtain ⟨k1, k2, k3⟩ := vx_keep h0 e1 hS hA hf hL hF
    obtain ⟨t2, a1, b1⟩ := kk r u t T'.heap (locs ++ L) e1.symm (by rw [← e2]; exact X'.warmed.alike) hp hb k1 k2 k3 T' rfl X'
    exact ⟨t2, st t2 a1, b1⟩
  · obtain ⟨k1, k2, k3⟩ := vx_keep h0 e1 hS hAX hf hL hF
    obtain ⟨t2, a1, b1⟩ := kx E ce q u t T'.heap (locs ++ L) e1.symm (by rw [← e2]; exact X'.warmed.alike) hp hb k1 k2 k3 (by rw [e1]; exact hce) hcv hcl T' rfl X'
    exact ⟨t2, st.trans a1, b1⟩
theorem vx_calll {S SX : Type} {post : Int64 → S → Prop} {px : SX → Prop} {B : S → State → Prop} {BX : String → SX → State → Prop} {AX : Nat → Prop} (hr : vx_Run p l e R s m args below meth c H locs cells slots mc ms (F0 m pc ls st0) rest (va_Ql post B A1 a) (vx_X px BX AX) free) (hS : va_S A0 H0 H locs) (hA : ∀ q, q < H.size → A1 q → A0 q) (hf : ∀ q, free q → A0 q) (hAX : ∀ q, q < H.size → AX q → A0 q)
    (kx : ∀ (E : String) (ce : Cell) (q9 : Addr) (u : SX) (t : State) (H1 : Heap) (locs1 : List Loc), t.heap = H1 → s.vm.Alike t.vm → px u → BX E u t → H.size ≤ H1.size → (∀ q : Nat, q < H.size → ¬ AX q → H1[q]? = H[q]?) → va_S A0 H0 H1 locs1 → H1[q9]? = some ce → ce.vm = .none → s.vm.findClass E = some ce.cls → vx_W p l e R s m args below meth c H1 locs1 (cells + mc) (slots + ms) Q (F0 m pc ls rest) q9)
    (kk : ∀ (r : Int64) (u : S) (t : State) (H1 : Heap) (locs1 : List Loc), t.heap = H1 → s.vm.Alike t.vm → post r u → B u t → H.size ≤ H1.size → (∀ q : Nat, q < H.size → ¬ A1 q → H1[q]? = H[q]?) → va_S A0 H0 H1 locs1 → W p l e R s m args below meth c H1 locs1 (cells + mc) (slots + ms) Q (F0 m (pc + 3) ls (.long r :: rest))) : W p l e R s m args below meth c H locs cells slots Q (F0 m pc ls st0) := by
  intro T hT X
  rcases hr T hT X with ⟨v, st₀, t, T', L, h0, X', hL, e1, e2, ⟨⟨r, u, hv, hp, hb⟩, hF⟩, st⟩ | ⟨q, st₀, t, T', L, E, ce, h0, X', hL, e1, e2, ⟨u, hp, hb, hF⟩, hce, hcv, hcl, st⟩
  · cases hv
    obtain ⟨k1, k2, k3⟩ := vx_keep h0 e1 hS hA hf hL hF
    obtain ⟨t2, a1, b1⟩ := kk r u t T'.heap (locs ++ L) e1.symm (by rw [← e2]; exact X'.warmed.alike) hp hb k1 k2 k3 T' rfl X'
    exact ⟨t2, st t2 a1, b1⟩
  · obtain ⟨k1, k2, k3⟩ := vx_keep h0 e1 hS hAX hf hL hF
    obtain ⟨t2, a1, b1⟩ := kx E ce q u t T'.heap (locs ++ L) e1.symm (by rw [← e2]; exact X'.warmed.alike) hp hb k1 k2 k3 (by rw [e1]; exact hce) hcv hcl T' rfl X'
    exact ⟨t2, st.trans a1, b1⟩
theorem vx_callf {S SX : Type} {post : UInt32 → S → Prop} {px : SX → Prop} {B : S → State → Prop} {BX : String → SX → State → Prop} {AX : Nat → Prop} (hr : vx_Run p l e R s m args below meth c H locs cells slots mc ms (F0 m pc ls st0) rest (va_Qf post B A1 a) (vx_X px BX AX) free) (hS : va_S A0 H0 H locs) (hA : ∀ q, q < H.size → A1 q → A0 q) (hf : ∀ q, free q → A0 q) (hAX : ∀ q, q < H.size → AX q → A0 q)
    (kx : ∀ (E : String) (ce : Cell) (q9 : Addr) (u : SX) (t : State) (H1 : Heap) (locs1 : List Loc), t.heap = H1 → s.vm.Alike t.vm → px u → BX E u t → H.size ≤ H1.size → (∀ q : Nat, q < H.size → ¬ AX q → H1[q]? = H[q]?) → va_S A0 H0 H1 locs1 → H1[q9]? = some ce → ce.vm = .none → s.vm.findClass E = some ce.cls → vx_W p l e R s m args below meth c H1 locs1 (cells + mc) (slots + ms) Q (F0 m pc ls rest) q9)
    (kk : ∀ (r : UInt32) (u : S) (t : State) (H1 : Heap) (locs1 : List Loc), t.heap = H1 → s.vm.Alike t.vm → post r u → B u t → H.size ≤ H1.size → (∀ q : Nat, q < H.size → ¬ A1 q → H1[q]? = H[q]?) → va_S A0 H0 H1 locs1 → W p l e R s m args below meth c H1 locs1 (cells + mc) (slots + ms) Q (F0 m (pc + 3) ls (.float r :: rest))) : W p l e R s m args below meth c H locs cells slots Q (F0 m pc ls st0) := by
  intro T hT X
  rcases hr T hT X with ⟨v, st₀, t, T', L, h0, X', hL, e1, e2, ⟨⟨r, u, hv, hp, hb⟩, hF⟩, st⟩ | ⟨q, st₀, t, T', L, E, ce, h0, X', hL, e1, e2, ⟨u, hp, hb, hF⟩, hce, hcv, hcl, st⟩
  · cases hv
    obtain ⟨k1, k2, k3⟩ := vx_keep h0 e1 hS hA hf hL hF
    obtain ⟨t2, a1, b1⟩ := kk r u t T'.heap (locs ++ L) e1.symm (by rw [← e2]; exact X'.warmed.alike) hp hb k1 k2 k3 T' rfl X'
    exact ⟨t2, st t2 a1, b1⟩
  · obtain ⟨k1, k2, k3⟩ := vx_keep h0 e1 hS hAX hf hL hF
    obtain ⟨t2, a1, b1⟩ := kx E ce q u t T'.heap (locs ++ L) e1.symm (by rw [← e2]; exact X'.warmed.alike) hp hb k1 k2 k3 (by rw [e1]; exact hce) hcv hcl T' rfl X'
    exact ⟨t2, st.trans a1, b1⟩
theorem vx_calld {S SX : Type} {post : UInt64 → S → Prop} {px : SX → Prop} {B : S → State → Prop} {BX : String → SX → State → Prop} {AX : Nat → Prop} (hr : vx_Run p l e R s m args below meth c H locs cells slots mc ms (F0 m pc ls st0) rest (va_Qd post B A1 a) (vx_X px BX AX) free) (hS : va_S A0 H0 H locs) (hA : ∀ q, q < H.size → A1 q → A0 q) (hf : ∀ q, free q → A0 q) (hAX : ∀ q, q < H.size → AX q → A0 q)
    (kx : ∀ (E : String) (ce : Cell) (q9 : Addr) (u : SX) (t : State) (H1 : Heap) (locs1 : List Loc), t.heap = H1 → s.vm.Alike t.vm → px u → BX E u t → H.size ≤ H1.size → (∀ q : Nat, q < H.size → ¬ AX q → H1[q]? = H[q]?) → va_S A0 H0 H1 locs1 → H1[q9]? = some ce → ce.vm = .none → s.vm.findClass E = some ce.cls → vx_W p l e R s m args below meth c H1 locs1 (cells + mc) (slots + ms) Q (F0 m pc ls rest) q9)
    (kk : ∀ (r : UInt64) (u : S) (t : State) (H1 : Heap) (locs1 : List Loc), t.heap = H1 → s.vm.Alike t.vm → post r u → B u t → H.size ≤ H1.size → (∀ q : Nat, q < H.size → ¬ A1 q → H1[q]? = H[q]?) → va_S A0 H0 H1 locs1 → W p l e R s m args below meth c H1 locs1 (cells + mc) (slots + ms) Q (F0 m (pc + 3) ls (.double r :: rest))) : W p l e R s m args below meth c H locs cells slots Q (F0 m pc ls st0) := by
  intro T hT X
  rcases hr T hT X with ⟨v, st₀, t, T', L, h0, X', hL, e1, e2, ⟨⟨r, u, hv, hp, hb⟩, hF⟩, st⟩ | ⟨q, st₀, t, T', L, E, ce, h0, X', hL, e1, e2, ⟨u, hp, hb, hF⟩, hce, hcv, hcl, st⟩
  · cases hv
    obtain ⟨k1, k2, k3⟩ := vx_keep h0 e1 hS hA hf hL hF
    obtain ⟨t2, a1, b1⟩ := kk r u t T'.heap (locs ++ L) e1.symm (by rw [← e2]; exact X'.warmed.alike) hp hb k1 k2 k3 T' rfl X'
    exact ⟨t2, st t2 a1, b1⟩
  · obtain ⟨k1, k2, k3⟩ := vx_keep h0 e1 hS hAX hf hL hF
    obtain ⟨t2, a1, b1⟩ := kx E ce q u t T'.heap (locs ++ L) e1.symm (by rw [← e2]; exact X'.warmed.alike) hp hb k1 k2 k3 (by rw [e1]; exact hce) hcv hcl T' rfl X'
    exact ⟨t2, st.trans a1, b1⟩
theorem vx_callv {S SX : Type} {post : S → Prop} {px : SX → Prop} {B : S → State → Prop} {BX : String → SX → State → Prop} {AX : Nat → Prop} (hr : vx_Run p l e R s m args below meth c H locs cells slots mc ms (F0 m pc ls st0) rest (va_Qv post B A1 a) (vx_X px BX AX) free) (hS : va_S A0 H0 H locs) (hA : ∀ q, q < H.size → A1 q → A0 q) (hf : ∀ q, free q → A0 q) (hAX : ∀ q, q < H.size → AX q → A0 q)
    (kx : ∀ (E : String) (ce : Cell) (q9 : Addr) (u : SX) (t : State) (H1 : Heap) (locs1 : List Loc), t.heap = H1 → s.vm.Alike t.vm → px u → BX E u t → H.size ≤ H1.size → (∀ q : Nat, q < H.size → ¬ AX q → H1[q]? = H[q]?) → va_S A0 H0 H1 locs1 → H1[q9]? = some ce → ce.vm = .none → s.vm.findClass E = some ce.cls → vx_W p l e R s m args below meth c H1 locs1 (cells + mc) (slots + ms) Q (F0 m pc ls rest) q9)
    (kk : ∀ (u : S) (t : State) (H1 : Heap) (locs1 : List Loc), t.heap = H1 → s.vm.Alike t.vm → post u → B u t → H.size ≤ H1.size → (∀ q : Nat, q < H.size → ¬ A1 q → H1[q]? = H[q]?) → va_S A0 H0 H1 locs1 → W p l e R s m args below meth c H1 locs1 (cells + mc) (slots + ms) Q (F0 m (pc + 3) ls (rest))) : W p l e R s m args below meth c H locs cells slots Q (F0 m pc ls st0) := by
  intro T hT X
  rcases hr T hT X with ⟨v, st₀, t, T', L, h0, X', hL, e1, e2, ⟨⟨u, hv, hp, hb⟩, hF⟩, st⟩ | ⟨q, st₀, t, T', L, E, ce, h0, X', hL, e1, e2, ⟨u, hp, hb, hF⟩, hce, hcv, hcl, st⟩
  · cases hv
    obtain ⟨k1, k2, k3⟩ := vx_keep h0 e1 hS hA hf hL hF
    obtain ⟨t2, a1, b1⟩ := kk u t T'.heap (locs ++ L) e1.symm (by rw [← e2]; exact X'.warmed.alike) hp hb k1 k2 k3 T' rfl X'
    exact ⟨t2, st t2 a1, b1⟩
  · obtain ⟨k1, k2, k3⟩ := vx_keep h0 e1 hS hAX hf hL hF
    obtain ⟨t2, a1, b1⟩ := kx E ce q u t T'.heap (locs ++ L) e1.symm (by rw [← e2]; exact X'.warmed.alike) hp hb k1 k2 k3 (by rw [e1]; exact hce) hcv hcl T' rfl X'
    exact ⟨t2, st.trans a1, b1⟩
/-- caught by the row x of this method's table; the rows ahead don't take it -/
theorem vx_catch {own name : String} {E : String} {ce : Cell} {q : Addr} (hown : s.vm.findClass own = some m.cls) (pre : List ExceptionTableEntry) (x : ExceptionTableEntry) (suf : List ExceptionTableEntry) (hsplit : c.exceptionTable.toList = pre ++ x :: suf)
    (hpass : ∀ z ∈ pre, covers z pc = false ∨ (z.catchType ≠ 0 ∧ ∃ nm : String, (Cond.classLink own z.catchType nm).before args s = true ∧ va_Nc E nm s)) (hx : covers x pc = true) (h0 : x.catchType ≠ 0)
    (hlink : (Cond.classLink own x.catchType name).before args s = true) (hcast : (Cond.castable E name).before args s = true) (hcell : H[q]? = some ce) (hv : ce.vm = .none) (hcl : s.vm.findClass E = some ce.cls)
    (kk : W p l e R s m args below meth c H locs cells slots Q (F0 m x.handlerPc ls [.ref q])) : vx_W p l e R s m args below meth c H locs cells slots Q (F0 m pc ls rest) q := by
  intro T hT X
  have hpl : e.platform.magicAccessors = ({} : Platform).magicAccessors := by rw [X.admits.platform]
  obtain ⟨c3, c4, hc3, hc4, hasg⟩ := Cond.castable_spec hcast
  cases Option.some.inj (hc3.symm.trans hcl)
  obtain ⟨c5, hc5, hcl5⟩ := Cond.classLink_spec hown hlink e.platform hpl
  cases Option.some.inj (hc4.symm.trans hc5)
  obtain ⟨vm', X', st⟩ := X.thenCaughtThrough q (g := F0 m pc ls rest) rfl (Steps.refl _) (by rw [hT]; exact hcell) (by rw [hv]; rfl) (by obtain ⟨k9, h9, -⟩ := Vm.findClass_spec hcl; exact ⟨k9, h9⟩) pre x suf hsplit
    (fun z hz => by
      rcases hpass z hz with h | ⟨hz0, nm, hl1, hn1⟩
      · exact Or.inl h
      · obtain ⟨c6, hc6, hcl6⟩ := Cond.classLink_spec hown hl1 e.platform hpl
        obtain ⟨a8, b8, h1, h2, h3⟩ := hn1
        cases Option.some.inj (h1.symm.trans hcl)
        cases Option.some.inj (h2.symm.trans hc6)
        exact Or.inr ⟨hz0, _, hcl6, h3⟩) hx (Or.inr ⟨h0, c4, hcl5, hasg⟩)
  obtain ⟨t, a1, b1⟩ := kk (T.setVm vm') hT X'
  exact ⟨t, st.trans a1, b1⟩
end Rows
section Ends
variable {p : Program} {l : Launch} {e : Env} {R : Room} {s : State} {m : MethodId} {args : Array Value} {below : List Frame} {meth : Method} {c : Code} {H : Heap} {locs : List Loc} {cells slots : Nat} {Q : State → Prop}
variable {mc ms : Nat} {free : Addr → Prop} {A0 A1 : Nat → Prop} {H0 : Heap} {a : Array Value} {ls : Array Slot} {st0 rest : List Value}
variable {Qc : Array Value → State → Outcome → State → Prop} {XC : String → State → State → Prop}
/-- what a body that may throw owes at its end -/
def vx_MQ (below : List Frame) (Qc : Array Value → State → Outcome → State → Prop) (XC : String → State → State → Prop) (a : Array Value) (s : State) (mc ms : Nat) (free : Addr → Prop) : State → Prop := fun t =>
  ∃ o, t.status = .running ∧ Ended t below o ∧ vx_Q Qc XC mc ms free a s o t
theorem vx_ret {g : JFrame} {mc ms : Nat} (k : W p l e R s m args below meth c H locs cells slots (MQ below Qc args s mc ms free) g) : W p l e R s m args below meth c H locs cells slots (vx_MQ below Qc XC args s mc ms free) g := by
  intro T hT X
  obtain ⟨t, a1, o, b1, b2, b3, b4⟩ := k T hT X
  exact ⟨t, a1, o, b1, b2, Or.inl ⟨b3, b4⟩⟩
/-- not caught here: it goes on to the caller -/
theorem vx_widen {g : JFrame} {q : Addr} {k n : Nat} (h1 : cells ≤ k) (h2 : slots ≤ n) (kk : vx_W p l e R s m args below meth c H locs k n Q g q) : vx_W p l e R s m args below meth c H locs cells slots Q g q := fun T hT X => kk T hT (stand_widen X h1 h2)
theorem vx_out {pc : Nat} {E : String} {ce : Cell} {q : Addr} {mc ms : Nat} (hout : ∀ x ∈ c.exceptionTable.toList, covers x pc = false) (hlocks : meth.locks = false) (hcell : H[q]? = some ce) (hv : ce.vm = .none) (hcl : s.vm.findClass E = some ce.cls)
    (hx : ∀ t : State, t.heap = H → s.vm.Alike t.vm → XC E s t) (hf : ∀ z ∈ locs, free z.base) (hc : cells ≤ mc) (hs : slots ≤ ms) :
    vx_W p l e R s m args below meth c H locs cells slots (vx_MQ below Qc XC args s mc ms free) (F0 m pc ls rest) q := by
  intro T hT X
  obtain ⟨st1, hrun, hend, hW, hsm⟩ := X.leaveThrown q (g := F0 m pc ls rest) rfl rfl rfl hout hlocks
  have hcell9 : (T.setFrames (.throwing q :: below)).heap[q]? = some ce := by
    show T.heap[q]? = some ce
    rw [hT]; exact hcell
  exact ⟨_, st1, .threw q, hrun, hend, Or.inr ⟨q, rfl, E, ce, locs, hx _ hT hW.alike, hcell9, hv, hcl, hW, hsm.mono hc hs, hf⟩⟩
theorem vx_frame {U : State} {k n : Nat} (h : s.sameButNew ({ U with vm := s.vm } : State) locs k n) : s.heap.size ≤ U.heap.size ∧ ∀ q : Nat, q < s.heap.size → (∀ z ∈ locs, z.base ≠ q) → U.heap[q]? = s.heap[q]? := by
  obtain ⟨-, h2, -, -, -, h6⟩ := h
  refine ⟨h2, fun q hq hz => ?_⟩
  obtain ⟨c9, e1, e2, e3, e4⟩ := h6 q _ (Array.getElem?_eq_getElem hq)
  have hs : c9.slots = (s.heap[q]).slots := Array.ext_getElem? fun i => e4 i fun hm => hz _ hm rfl
  have h9 : c9 = s.heap[q] := by
    rw [hs] at e2
    exact e2
  have e5 : U.heap[q]? = some c9 := e1
  rw [e5, h9, Array.getElem?_eq_getElem hq]
/-- the words of a throw but the four that speak of the heap -/
def vx_no (w : Cond) : Bool := decide (w ≠ .isRef (.static Bundle.tN "UNASSIGNED_STACK" Bundle.steD)) && decide (w ≠ .isRef (.static Bundle.tN "SUPPRESSED_SENTINEL" Bundle.listD)) && decide (w ≠ .laysStatic Bundle.tN "UNASSIGNED_STACK" Bundle.steD) && decide (w ≠ .laysStatic Bundle.tN "SUPPRESSED_SENTINEL" Bundle.listD)
def vx_at0 (own : String) (ic : Nat) (X : String) (names : List String) : List Cond := (Bundle.ownAtoms0 own ic X names).filter vx_no
def vx_atS (own : String) (ic : Nat) (X : String) (names : List String) : List Cond := (Bundle.ownAtoms own ic X names).filter vx_no
/-- a word that the tables alone decide, or a good one -/
def vx_ot (w : Cond) : Bool := w.onTables || goodWord w
theorem vx_ot_at {args a' : Array Value} {s U : State} {w : Cond} (hW : s.WarmedH U.vm) (hvm : s.vm = U.vm) (hg : vx_ot w = true) (h : w.before args s = true) : w.before a' U = true := by
  simp only [vx_ot, Bool.or_eq_true] at hg
  rcases hg with hg | hg
  · exact va_tabs hg hvm h
  · exact word_at hW (good_of_word hg) h
/-- a list's words: the good ones out of the method's own list, the others by premises of their own -/
theorem vx_hat {args : Array Value} {s : State} {L B : List Cond} (h1 : ∀ w ∈ L.filter goodWord, w.before args s = true) (h2 : ∀ w ∈ L.filter (fun w => !goodWord w), w ∈ B) (h3 : ∀ w ∈ B, w.before args s = true) : ∀ w ∈ L, w.before args s = true := by
  intro w hw
  by_cases g : goodWord w = true
  · exact h1 w (List.mem_filter.mpr ⟨hw, g⟩)
  · refine h3 w (h2 w (List.mem_filter.mpr ⟨hw, ?_⟩))
    show (!goodWord w) = true
    cases hgw : goodWord w
    · rfl
    · exact absurd hgw g
theorem vx_c {args : Array Value} {s : State} {w : Cond} {B : List Cond} (h : w.before args s = true) (t : ∀ w ∈ B, w.before args s = true) : ∀ w' ∈ w :: B, w'.before args s = true := fun w' h' => (List.mem_cons.mp h').elim (fun e => by rw [e]; exact h) (t w')
theorem vx_n {args : Array Value} {s : State} : ∀ w ∈ ([] : List Cond), w.before args s = true := fun _ h => nomatch h
theorem vx_own {args : Array Value} {s : State} {L : List Cond} (h1 : ∀ w ∈ L.filter vx_no, w.before args s = true)
    (hU : (Cond.isRef (.static Bundle.tN "UNASSIGNED_STACK" Bundle.steD)).before args s = true) (hN : (Cond.isRef (.static Bundle.tN "SUPPRESSED_SENTINEL" Bundle.listD)).before args s = true)
    (lU : (Cond.laysStatic Bundle.tN "UNASSIGNED_STACK" Bundle.steD).before args s = true) (lN : (Cond.laysStatic Bundle.tN "SUPPRESSED_SENTINEL" Bundle.listD).before args s = true) : ∀ w ∈ L, w.before args s = true := by
  intro w hw
  by_cases e1 : w = .isRef (.static Bundle.tN "UNASSIGNED_STACK" Bundle.steD)
  · rw [e1]; exact hU
  · by_cases e2 : w = .isRef (.static Bundle.tN "SUPPRESSED_SENTINEL" Bundle.listD)
    · rw [e2]; exact hN
    · by_cases e3 : w = .laysStatic Bundle.tN "UNASSIGNED_STACK" Bundle.steD
      · rw [e3]; exact lU
      · by_cases e4 : w = .laysStatic Bundle.tN "SUPPRESSED_SENTINEL" Bundle.listD
        · rw [e4]; exact lN
        · exact h1 w (List.mem_filter.mpr ⟨hw, by unfold vx_no; rw [decide_eq_true e1, decide_eq_true e2, decide_eq_true e3, decide_eq_true e4]; rfl⟩)
/-- where a static field lies, its class's statics cell in H -/
def vx_L (C n d : String) (A : Nat → Prop) (U : State) (H : Heap) : Prop := ∃ (c : ClassId) (k : Class) (i : Nat) (f : Field) (a : Nat) (cell : Cell), U.vm.findClass C = some c ∧ U.fieldFound? C n d = some (c, k, i, f) ∧ f.isStatic = true ∧ k.statics = some a ∧ H[a]? = some cell ∧ cell.vm.isStatics = true ∧ cell.cls = c ∧ f.slot < cell.slots.size ∧ k.staticTypes[f.slot]? = some f.type ∧ ¬ A a
theorem vx_L.moved {C n d : String} {A : Nat → Prop} {u U : State} {H : Heap} (hvm : u.vm.Alike U.vm) (h : vx_L C n d A u H) : vx_L C n d A U H := by
  obtain ⟨c, k, i, f, a, cell, h1, h2, h3, h4, h5, h6, h7, h8, h9, h10⟩ := h
  obtain ⟨k', hi', he⟩ := State.fieldFound?_setVm hvm h2
  exact ⟨c, k', i, f, a, cell, by rw [hvm.findClass]; exact h1, hi', h3, by rw [he]; exact h4, h5, h6, h7, h8, by rw [he]; exact h9, h10⟩
theorem vx_L.kept {C n d : String} {A : Nat → Prop} {U : State} {H H1 : Heap} (h : vx_L C n d A U H) (hq : ∀ a : Nat, a < H.size → ¬ A a → H1[a]? = H[a]?) : vx_L C n d A U H1 := by
  obtain ⟨c, k, i, f, a, cell, h1, h2, h3, h4, h5, h6, h7, h8, h9, h10⟩ := h
  exact ⟨c, k, i, f, a, cell, h1, h2, h3, h4, by rw [hq a (Array.getElem?_eq_some_iff.mp h5).1 h10]; exact h5, h6, h7, h8, h9, h10⟩
theorem vx_L.narrow {C n d : String} {A B : Nat → Prop} {U : State} {H : Heap} (h : vx_L C n d A U H) (hAB : ∀ q, B q → A q) : vx_L C n d B U H := by
  obtain ⟨c, k, i, f, a, cell, h1, h2, h3, h4, h5, h6, h7, h8, h9, h10⟩ := h
  exact ⟨c, k, i, f, a, cell, h1, h2, h3, h4, h5, h6, h7, h8, h9, fun z => h10 (hAB _ z)⟩
theorem vx_L.word {C n d : String} {A : Nat → Prop} {s : State} {args : Array Value} (h : vx_L C n d A s s.heap) : (Cond.laysStatic C n d).before args s = true := by
  obtain ⟨c, k, i, f, a, cell, h1, h2, h3, h4, h5, h6, h7, h8, h9, -⟩ := h
  show (Cond.laysStatic C n d).holds args s none s [] = true
  exact Cond.laysStatic_of h1 h2 h3 h4 h5 h6 h7 h8 h9
/-- .. and what it holds: null or some reference -/
def vx_Zq (C n d : String) (A : Nat → Prop) (U : State) (H : Heap) : Prop := va_Zq C n d A U H ∧ vx_L C n d A U H
theorem vx_Zq.moved {C n d : String} {A : Nat → Prop} {u U : State} {H : Heap} (hvm : u.vm.Alike U.vm) (h : vx_Zq C n d A u H) : vx_Zq C n d A U H := ⟨va_Zq.moved hvm h.1, vx_L.moved hvm h.2⟩
theorem vx_Zq.kept {C n d : String} {A : Nat → Prop} {U : State} {H H1 : Heap} (h : vx_Zq C n d A U H) (hq : ∀ a : Nat, a < H.size → ¬ A a → H1[a]? = H[a]?) : vx_Zq C n d A U H1 := ⟨va_Zq.kept h.1 hq, vx_L.kept h.2 hq⟩
theorem vx_Zq.narrow {C n d : String} {A B : Nat → Prop} {U : State} {H : Heap} (h : vx_Zq C n d A U H) (hAB : ∀ q, B q → A q) : vx_Zq C n d B U H := ⟨va_Zq.narrow h.1 hAB, vx_L.narrow h.2 hAB⟩
theorem vx_Zqof {args : Array Value} {s : State} {C n d : String} {A : Nat → Prop} (hl : (Cond.laysStatic C n d).before args s = true) (hini : (Cond.initialized C).before args s = true) (h : (Cond.isRef (.static C n d)).before args s = true) (hA : ∀ a : Nat, a < s.heap.size → ¬ A a) : vx_Zq C n d A s s.heap := by
  refine ⟨va_Zqof hl hini h hA, ?_⟩
  obtain ⟨c, k, i, f, a, cell, h1, h2, h3, h4, h5, h6, h7, h8, h9⟩ := Cond.laysStatic_spec hl
  exact ⟨c, k, i, f, a, cell, h1, h2, h3, h4, h5, h6, h7, h8, h9, hA a (Array.getElem?_eq_some_iff.mp h5).1⟩
theorem vx_isRef {C n d : String} {v : Value} {A : Nat → Prop} {s : State} {args : Array Value} (h : va_Z C n d v A s s.heap) (hv : v.isRef = true) : (Cond.isRef (.static C n d)).before args s = true := by
  obtain ⟨cf, kf, fi, f, a, cell, h1, h2, h3, h4, h5, h6, h7, -⟩ := h
  have he : (Term.static C n d).eval args s none [] s = some v := by
    simp [Term.eval, State.fieldNamed?, h1, h2, h4, h5, h6, h7]
  simp only [Cond.before, Cond.holds, Cond.value, he]
  cases v <;> simp_all [Value.isRef]
theorem vx_isRefq {C n d : String} {A : Nat → Prop} {s : State} {args : Array Value} (h : va_Zq C n d A s s.heap) : (Cond.isRef (.static C n d)).before args s = true := by
  rcases h with h | ⟨t, h⟩
  · exact vx_isRef h rfl
  · exact vx_isRef h rfl
/-- the same frame, seen from here: as if the method were called anew in this heap -/
theorem vx_rebase {T : State} (X : Stand p l e R s m args below meth c T locs cells slots) {R' : Room} (hf : R'.frames ≤ R.frames) (hl : R'.locals ≤ R.locals) (hc : cells + R'.cells ≤ R.cells) (hs : slots + R'.slots ≤ R.slots) :
    Stand p l e R' ((T.setVm s.vm).setFrames (.invoking m args :: below)) m args below meth c T [] 0 0 := by
  have htop : (T.setVm s.vm).topJava?.isSome := X.here.top
  have hF : ((T.setVm s.vm).setFrames (.invoking m args :: below)).frames = .invoking m args :: below := State.frames_setFrames _ (State.cur_lt_of_top htop)
  obtain ⟨g₀, hg0⟩ := Option.isSome_iff_exists.mp htop
  obtain ⟨r, hr⟩ := State.topJava?_eq_some.mp hg0
  have hl9 : e.platform.stackLimits (T.setVm s.vm).me = e.platform.stackLimits s.me := X.limits
  have hb9 : (T.setVm s.vm).me.stackBytes = s.me.stackBytes := X.bytes
  refine ⟨X.admits, X.cas, X.clock, hF, ?_, X.hears, X.method, X.code, X.here, X.tail, X.warmed, ?_, ?_, ?_⟩
  · have h := X.room
    have hU : ((T.setVm s.vm).setFrames (.invoking m args :: below)).localsInUse = s.localsInUse := by
      rw [State.localsInUse_invoking hF (meth := meth) (c := c) X.method X.code, State.localsInUse_invoking X.frames X.method X.code]
    simp only [State.hasRoom, Bool.and_eq_true, decide_eq_true_eq] at h ⊢
    obtain ⟨⟨⟨⟨h1, h2, h3, h4, h5, h6⟩, h7⟩, h8⟩, h9⟩ := h
    rw [X.frames, List.length_cons] at h2 h3
    have q1 := X.heapSize
    have q2 := X.used
    simp only [hF, hU, List.length_cons, State.stackLimits_setFrames, State.stackBytes_setFrames, hl9, hb9]
    refine ⟨⟨⟨⟨by omega, by omega, by omega, by omega, by omega, h6⟩, ?_⟩, ?_⟩, X.book⟩
    · show T.heap.size + R'.cells ≤ e.platform.maxCells
      omega
    · show T.slotsUsed + R'.slots ≤ e.platform.maxSlots
      omega
  · rw [State.stackLimits_setFrames]; rfl
  · rw [State.stackBytes_setFrames]; rfl
  · refine ⟨?_, Nat.le_refl _, Nat.le_refl _, ?_, ?_, fun a c9 h9 => ⟨c9, h9, rfl, rfl, fun _ _ => rfl⟩⟩
    · obtain ⟨t, ht, -⟩ := State.frames_cons hr
      show T.setVm s.vm = { ((T.setVm s.vm).setFrames (.invoking m args :: below)).setFrames (T.setVm s.vm).frames with heap := T.heap, slotsUsed := T.slotsUsed }
      rw [State.setFrames_setFrames, State.setFrames_self ht]
      rfl
    · show T.slotsUsed = T.slotsUsed + ((T.heap.toList.drop T.heap.size).map (·.slots.size)).sum
      rw [List.drop_eq_nil_of_le (Nat.le_of_eq Array.length_toList)]
      rfl
    · show ((T.heap.toList.drop T.heap.size).map (·.slots.size)).sum ≤ 0
      rw [List.drop_eq_nil_of_le (Nat.le_of_eq Array.length_toList)]
      exact Nat.le_refl _
/-- 'throw new E()': new; dup; invokespecial; athrow -/
theorem vx_throw0 {cc : ByteArray} {pc : Nat} (hexec : p.tables.exec = Jvm.exec) (hb : c.code = cc) (hl : l.stackTraces = false) {own cls : String} {names : List String} {ik ic mc ms : Nat} {A : Nat → Prop}
    (hown : s.vm.findClass own = some m.cls) (hcls : Bundle.fit cls = true) (hnames : ∀ n ∈ names, Bundle.fit n = true)
    (hk : (Cond.classLink own ik cls).before args s = true) (hini : (Cond.initialized cls).before args s = true) (hat : ∀ w ∈ vx_at0 own ic cls names, w.before args s = true)
    (hgood : ∀ w ∈ Cond.classLink own ik cls :: Cond.initialized cls :: vx_at0 own ic cls names, vx_ot w = true)
    (hU : vx_Zq Bundle.tN "UNASSIGNED_STACK" Bundle.steD A s s.heap) (hN : vx_Zq Bundle.tN "SUPPRESSED_SENTINEL" Bundle.listD A s s.heap) (hS : va_S A s.heap H locs) (hsize : ls.size = c.maxLocals)
    (d0 : decode cc pc = .ok (.new ik, 3)) (d3 : decode cc (pc + 3) = .ok (.dup, 1)) (d4 : decode cc (pc + 4) = .ok (.invokespecial ic, 3)) (d7 : decode cc (pc + 7) = .ok (.athrow, 1))
    (hout : ∀ x ∈ c.exceptionTable.toList, covers x (pc + 7) = false)
    (hRframes : names.length + 3 < R.frames) (hRlocals : (rest.map fun v => v.category).sum + (13 * (names.length + 1) + 42) ≤ R.locals) (hRcells : cells + 1 ≤ R.cells) (hRslots : slots + 6 ≤ R.slots) (hlocks : meth.locks = false)
    (hx : ∀ t : State, s.vm.Alike t.vm → H.size ≤ t.heap.size → (∀ q : Nat, q < H.size → t.heap[q]? = H[q]?) → XC cls s t)
    (hf : ∀ z ∈ locs, free z.base) (hc : cells + 1 ≤ mc) (hs : slots + 6 ≤ ms) :
    W p l e R s m args below meth c H locs cells slots (vx_MQ below Qc XC args s mc ms free) (F0 m pc ls rest) := by
  intro T hT X
  have htr : e.platform.stackTraces = false := (show e.platform.stackTraces = l.stackTraces by rw [X.admits.platform]).trans hl
  have Y := vx_rebase X (R' := { frames := R.frames, locals := R.locals, cells := 1, slots := 6 }) (Nat.le_refl _) (Nat.le_refl _) hRcells hRslots
  obtain ⟨s', hA⟩ : ∃ z, z = (T.setVm s.vm).setFrames (.invoking m args :: below) := ⟨_, rfl⟩
  rw [← hA] at Y
  have hvm : s'.vm = s.vm := by rw [hA]; rfl
  have hhp : s'.heap = H := by rw [hA]; exact hT
  have hW0 : s.WarmedH s'.vm := by rw [hvm]; exact State.WarmedH.refl s
  have hat' : ∀ w ∈ vx_at0 own ic cls names, w.before args s' = true := fun w hw => vx_ot_at hW0 hvm.symm (hgood w (List.mem_cons_of_mem _ (List.mem_cons_of_mem _ hw))) (hat w hw)
  have hk' : (Cond.classLink own ik cls).before args s' = true := vx_ot_at hW0 hvm.symm (hgood _ List.mem_cons_self) hk
  have hini' : (Cond.initialized cls).before args s' = true := vx_ot_at hW0 hvm.symm (hgood _ (List.mem_cons_of_mem _ List.mem_cons_self)) hini
  have hU' : vx_Zq Bundle.tN "UNASSIGNED_STACK" Bundle.steD A s' s'.heap := by rw [hhp]; exact vx_Zq.moved hW0.alike (hU.kept hS.2.1)
  have hN' : vx_Zq Bundle.tN "SUPPRESSED_SENTINEL" Bundle.listD A s' s'.heap := by rw [hhp]; exact vx_Zq.moved hW0.alike (hN.kept hS.2.1)
  have h : ∀ w ∈ Bundle.ownAtoms0 own ic cls names, w.before args s' = true := vx_own hat' (vx_isRefq hU'.1) (vx_isRefq hN'.1) hU'.2.word hN'.2.word
  have hown' : s'.vm.findClass own = some m.cls := by rw [hvm]; exact hown
  have hins : (Cond.instantiable cls 6).before args s' = true := h _ (by simp [Bundle.ownAtoms0])
  obtain ⟨vm₁, cX, kX, hfX, hkX, -, -, X₁, st1⟩ := Y.newCold hexec (own := own) (C := cls) (index := ik) (n := 6) hown' hk' hins hini'
    (g := F0 m pc ls rest) rfl (by rw [hb]; exact d0) (Nat.le_refl _) (Nat.le_refl _)
  generalize hT1 : (T.setVm vm₁).pushCell { cls := cX, slots := kX.instanceTypes.map defaultValue, vm := .none } = T1 at X₁ st1
  have hcat : (Value.ref T.heap.size).category = 1 := rfl
  have hcellA : T1.heap[T.heap.size]? = some (freshCell cX kX) := by rw [← hT1]; exact State.heap_pushCell_size _ _
  have d3' : decode c.code (pc + 3) = .ok (.dup, 1) := by rw [hb]; exact d3
  obtain ⟨U, hsteps, hrun, hend, hW, hsame, ce, hce, hO⟩ := X₁.ctorThrow0 hexec htr (own := own) (cls := cls) (names := names) (ic := ic) hown' hcls hnames h (fun x hx => nomatch hx) hfX hkX hcellA (by rw [hhp, hT]; exact Nat.le_refl _)
    (g := { method := m, pc := pc + 4, locals := ls, stack := .ref T.heap.size :: .ref T.heap.size :: rest, locked := none }) rfl hsize rfl rfl (rest := rest) rfl
    (by rw [hb]; exact d4) (by rw [hb]; exact d7) hout hRframes (by simp only [List.map_cons, List.sum_cons, hcat]; omega) hlocks
  obtain ⟨f1, f2⟩ := vx_frame hsame
  rw [hhp] at f1 f2
  have hWs : s.WarmedH U.vm := State.WarmedH.trans hW0 hW
  have hcl : s.vm.findClass cls = some ce.cls := by
    have h9 := hO.cls
    rw [hvm] at h9
    exact h9
  have hall : s.sameButNew ({ U with vm := s.vm } : State) locs mc ms := by
    subst hA
    obtain ⟨e1, e2⟩ := hsame
    rw [State.setFrames_setFrames] at e1
    have h2 : (T.setVm s.vm).sameButNew ({ U with vm := s.vm } : State) [] (0 + 1) (0 + 6) := ⟨e1, e2⟩
    have h3 := X.same.trans h2
    rw [List.append_nil] at h3
    exact h3.mono hc hs
  refine ⟨U, ?_, .threw T.heap.size, hrun, hend, Or.inr ⟨T.heap.size, rfl, cls, ce, locs, hx U hWs.alike f1 (fun q hq => f2 q hq (fun z hz => nomatch hz)), hce, hO.vm, hcl, hWs, hall, hf⟩⟩
  refine st1 _ ?_
  show Steps p.tables e below (T1.setTop { method := m, pc := pc + 3, locals := ls, stack := .ref T.heap.size :: rest, locked := none }) _
  jvm_step X₁.here [X₁.here.top, hexec, d3', Value.category]
  exact hsteps
/-- 'throw new E("text")': new; dup; ldc; invokespecial; athrow -/
theorem vx_throwS {cc : ByteArray} {pc : Nat} (hexec : p.tables.exec = Jvm.exec) (hb : c.code = cc) (hl : l.stackTraces = false) {own cls text : String} {names : List String} {ik is ic mc ms sa : Nat} {A : Nat → Prop}
    (hown : s.vm.findClass own = some m.cls) (hcls : Bundle.fit cls = true) (hnames : ∀ n ∈ names, Bundle.fit n = true)
    (hk : (Cond.classLink own ik cls).before args s = true) (hini : (Cond.initialized cls).before args s = true) (hstr : vk_R own is text sa s) (hat : ∀ w ∈ vx_atS own ic cls names, w.before args s = true)
    (hgood : ∀ w ∈ Cond.classLink own ik cls :: Cond.initialized cls :: vx_atS own ic cls names, vx_ot w = true)
    (hU : vx_Zq Bundle.tN "UNASSIGNED_STACK" Bundle.steD A s s.heap) (hN : vx_Zq Bundle.tN "SUPPRESSED_SENTINEL" Bundle.listD A s s.heap) (hS : va_S A s.heap H locs) (hsize : ls.size = c.maxLocals)
    (d0 : decode cc pc = .ok (.new ik, 3)) (d3 : decode cc (pc + 3) = .ok (.dup, 1)) (d4 : decode cc (pc + 4) = .ok (.ldc is, 2)) (d6 : decode cc (pc + 6) = .ok (.invokespecial ic, 3)) (d9 : decode cc (pc + 9) = .ok (.athrow, 1))
    (hout : ∀ x ∈ c.exceptionTable.toList, covers x (pc + 9) = false)
    (hRframes : names.length + 3 < R.frames) (hRlocals : (rest.map fun v => v.category).sum + (13 * (names.length + 1) + 43) ≤ R.locals) (hRcells : cells + 1 ≤ R.cells) (hRslots : slots + 6 ≤ R.slots) (hlocks : meth.locks = false)
    (hx : ∀ t : State, s.vm.Alike t.vm → H.size ≤ t.heap.size → (∀ q : Nat, q < H.size → t.heap[q]? = H[q]?) → XC cls s t)
    (hf : ∀ z ∈ locs, free z.base) (hc : cells + 1 ≤ mc) (hs : slots + 6 ≤ ms) :
    W p l e R s m args below meth c H locs cells slots (vx_MQ below Qc XC args s mc ms free) (F0 m pc ls rest) := by
  intro T hT X
  have htr : e.platform.stackTraces = false := (show e.platform.stackTraces = l.stackTraces by rw [X.admits.platform]).trans hl
  have Y := vx_rebase X (R' := { frames := R.frames, locals := R.locals, cells := 1, slots := 6 }) (Nat.le_refl _) (Nat.le_refl _) hRcells hRslots
  obtain ⟨s', hA⟩ : ∃ z, z = (T.setVm s.vm).setFrames (.invoking m args :: below) := ⟨_, rfl⟩
  rw [← hA] at Y
  have hvm : s'.vm = s.vm := by rw [hA]; rfl
  have hhp : s'.heap = H := by rw [hA]; exact hT
  have hW0 : s.WarmedH s'.vm := by rw [hvm]; exact State.WarmedH.refl s
  have hat' : ∀ w ∈ vx_atS own ic cls names, w.before args s' = true := fun w hw => vx_ot_at hW0 hvm.symm (hgood w (List.mem_cons_of_mem _ (List.mem_cons_of_mem _ hw))) (hat w hw)
  have hk' : (Cond.classLink own ik cls).before args s' = true := vx_ot_at hW0 hvm.symm (hgood _ List.mem_cons_self) hk
  have hini' : (Cond.initialized cls).before args s' = true := vx_ot_at hW0 hvm.symm (hgood _ (List.mem_cons_of_mem _ List.mem_cons_self)) hini
  have hU' : vx_Zq Bundle.tN "UNASSIGNED_STACK" Bundle.steD A s' s'.heap := by rw [hhp]; exact vx_Zq.moved hW0.alike (hU.kept hS.2.1)
  have hN' : vx_Zq Bundle.tN "SUPPRESSED_SENTINEL" Bundle.listD A s' s'.heap := by rw [hhp]; exact vx_Zq.moved hW0.alike (hN.kept hS.2.1)
  have h : ∀ w ∈ Bundle.ownAtoms own ic cls names, w.before args s' = true := vx_own hat' (vx_isRefq hU'.1) (vx_isRefq hN'.1) hU'.2.word hN'.2.word
  have hown' : s'.vm.findClass own = some m.cls := by rw [hvm]; exact hown
  have hins : (Cond.instantiable cls 6).before args s' = true := h _ (by simp [Bundle.ownAtoms])
  obtain ⟨vm₁, cX, kX, hfX, hkX, -, -, X₁, st1⟩ := Y.newCold hexec (own := own) (C := cls) (index := ik) (n := 6) hown' hk' hins hini'
    (g := F0 m pc ls rest) rfl (by rw [hb]; exact d0) (Nat.le_refl _) (Nat.le_refl _)
  generalize hT1 : (T.setVm vm₁).pushCell { cls := cX, slots := kX.instanceTypes.map defaultValue, vm := .none } = T1 at X₁ st1
  have hcat : (Value.ref T.heap.size).category = 1 := rfl
  have hcellA : T1.heap[T.heap.size]? = some (freshCell cX kX) := by rw [← hT1]; exact State.heap_pushCell_size _ _
  have d3' : decode c.code (pc + 3) = .ok (.dup, 1) := by rw [hb]; exact d3
  have d4' : decode c.code (pc + 4) = .ok (.ldc is, 2) := by rw [hb]; exact d4
  have hstr' : vk_R own is text sa s' := vk_R.warm hW0 hstr
  obtain ⟨U, hsteps, hrun, hend, hW, hsame, ce, hce, hO⟩ := X₁.ctorThrowS hexec htr (own := own) (cls := cls) (names := names) (ic := ic) hown' hcls hnames h (fun x hx => nomatch hx) hfX hkX hcellA (by rw [hhp, hT]; exact Nat.le_refl _) (msg := .ref sa) rfl
    (g := { method := m, pc := pc + 6, locals := ls, stack := .ref sa :: .ref T.heap.size :: .ref T.heap.size :: rest, locked := none }) rfl hsize rfl rfl (rest := rest) rfl
    (by rw [hb]; exact d6) (by rw [hb]; exact d9) hout hRframes (by simp only [List.map_cons, List.sum_cons, hcat]; omega) hlocks
  obtain ⟨f1, f2⟩ := vx_frame hsame
  rw [hhp] at f1 f2
  have hWs : s.WarmedH U.vm := State.WarmedH.trans hW0 hW
  have hcl : s.vm.findClass cls = some ce.cls := by
    have h9 := hO.cls
    rw [hvm] at h9
    exact h9
  have hall : s.sameButNew ({ U with vm := s.vm } : State) locs mc ms := by
    subst hA
    obtain ⟨e1, e2⟩ := hsame
    rw [State.setFrames_setFrames] at e1
    have h2 : (T.setVm s.vm).sameButNew ({ U with vm := s.vm } : State) [] (0 + 1) (0 + 6) := ⟨e1, e2⟩
    have h3 := X.same.trans h2
    rw [List.append_nil] at h3
    exact h3.mono hc hs
  refine ⟨U, ?_, .threw T.heap.size, hrun, hend, Or.inr ⟨T.heap.size, rfl, cls, ce, locs, hx U hWs.alike f1 (fun q hq => f2 q hq (fun z hz => nomatch hz)), hce, hO.vm, hcl, hWs, hall, hf⟩⟩
  refine st1 _ ?_
  show Steps p.tables e below (T1.setTop { method := m, pc := pc + 3, locals := ls, stack := .ref T.heap.size :: rest, locked := none }) _
  jvm_step X₁.here [X₁.here.top, hexec, d3', Value.category]
  exact X₁.ldcString hexec (own := own) (text := text) (index := is) (a := sa) hown' hstr'.1 hstr'.2
    (g := { method := m, pc := pc + 4, locals := ls, stack := .ref T.heap.size :: .ref T.heap.size :: rest, locked := none }) rfl d4' _ hsteps
/-- 'throw new E("text")', the text by a wide index -/
theorem vx_throwSW {cc : ByteArray} {pc : Nat} (hexec : p.tables.exec = Jvm.exec) (hb : c.code = cc) (hl : l.stackTraces = false) {own cls text : String} {names : List String} {ik is ic mc ms sa : Nat} {A : Nat → Prop}
    (hown : s.vm.findClass own = some m.cls) (hcls : Bundle.fit cls = true) (hnames : ∀ n ∈ names, Bundle.fit n = true)
    (hk : (Cond.classLink own ik cls).before args s = true) (hini : (Cond.initialized cls).before args s = true) (hstr : vk_R own is text sa s) (hat : ∀ w ∈ vx_atS own ic cls names, w.before args s = true)
    (hgood : ∀ w ∈ Cond.classLink own ik cls :: Cond.initialized cls :: vx_atS own ic cls names, vx_ot w = true)
    (hU : vx_Zq Bundle.tN "UNASSIGNED_STACK" Bundle.steD A s s.heap) (hN : vx_Zq Bundle.tN "SUPPRESSED_SENTINEL" Bundle.listD A s s.heap) (hS : va_S A s.heap H locs) (hsize : ls.size = c.maxLocals)
    (d0 : decode cc pc = .ok (.new ik, 3)) (d3 : decode cc (pc + 3) = .ok (.dup, 1)) (d4 : decode cc (pc + 4) = .ok (.ldc_w is, 3)) (d7 : decode cc (pc + 7) = .ok (.invokespecial ic, 3)) (d10 : decode cc (pc + 10) = .ok (.athrow, 1))
    (hout : ∀ x ∈ c.exceptionTable.toList, covers x (pc + 10) = false)
    (hRframes : names.length + 3 < R.frames) (hRlocals : (rest.map fun v => v.category).sum + (13 * (names.length + 1) + 43) ≤ R.locals) (hRcells : cells + 1 ≤ R.cells) (hRslots : slots + 6 ≤ R.slots) (hlocks : meth.locks = false)
    (hx : ∀ t : State, s.vm.Alike t.vm → H.size ≤ t.heap.size → (∀ q : Nat, q < H.size → t.heap[q]? = H[q]?) → XC cls s t)
    (hf : ∀ z ∈ locs, free z.base) (hc : cells + 1 ≤ mc) (hs : slots + 6 ≤ ms) :
    W p l e R s m args below meth c H locs cells slots (vx_MQ below Qc XC args s mc ms free) (F0 m pc ls rest) := by
  intro T hT X
  have htr : e.platform.stackTraces = false := (show e.platform.stackTraces = l.stackTraces by rw [X.admits.platform]).trans hl
  have Y := vx_rebase X (R' := { frames := R.frames, locals := R.locals, cells := 1, slots := 6 }) (Nat.le_refl _) (Nat.le_refl _) hRcells hRslots
  obtain ⟨s', hA⟩ : ∃ z, z = (T.setVm s.vm).setFrames (.invoking m args :: below) := ⟨_, rfl⟩
  rw [← hA] at Y
  have hvm : s'.vm = s.vm := by rw [hA]; rfl
  have hhp : s'.heap = H := by rw [hA]; exact hT
  have hW0 : s.WarmedH s'.vm := by rw [hvm]; exact State.WarmedH.refl s
  have hat' : ∀ w ∈ vx_atS own ic cls names, w.before args s' = true := fun w hw => vx_ot_at hW0 hvm.symm (hgood w (List.mem_cons_of_mem _ (List.mem_cons_of_mem _ hw))) (hat w hw)
  have hk' : (Cond.classLink own ik cls).before args s' = true := vx_ot_at hW0 hvm.symm (hgood _ List.mem_cons_self) hk
  have hini' : (Cond.initialized cls).before args s' = true := vx_ot_at hW0 hvm.symm (hgood _ (List.mem_cons_of_mem _ List.mem_cons_self)) hini
  have hU' : vx_Zq Bundle.tN "UNASSIGNED_STACK" Bundle.steD A s' s'.heap := by rw [hhp]; exact vx_Zq.moved hW0.alike (hU.kept hS.2.1)
  have hN' : vx_Zq Bundle.tN "SUPPRESSED_SENTINEL" Bundle.listD A s' s'.heap := by rw [hhp]; exact vx_Zq.moved hW0.alike (hN.kept hS.2.1)
  have h : ∀ w ∈ Bundle.ownAtoms own ic cls names, w.before args s' = true := vx_own hat' (vx_isRefq hU'.1) (vx_isRefq hN'.1) hU'.2.word hN'.2.word
  have hown' : s'.vm.findClass own = some m.cls := by rw [hvm]; exact hown
  have hins : (Cond.instantiable cls 6).before args s' = true := h _ (by simp [Bundle.ownAtoms])
  obtain ⟨vm₁, cX, kX, hfX, hkX, -, -, X₁, st1⟩ := Y.newCold hexec (own := own) (C := cls) (index := ik) (n := 6) hown' hk' hins hini'
    (g := F0 m pc ls rest) rfl (by rw [hb]; exact d0) (Nat.le_refl _) (Nat.le_refl _)
  generalize hT1 : (T.setVm vm₁).pushCell { cls := cX, slots := kX.instanceTypes.map defaultValue, vm := .none } = T1 at X₁ st1
  have hcat : (Value.ref T.heap.size).category = 1 := rfl
  have hcellA : T1.heap[T.heap.size]? = some (freshCell cX kX) := by rw [← hT1]; exact State.heap_pushCell_size _ _
  have d3' : decode c.code (pc + 3) = .ok (.dup, 1) := by rw [hb]; exact d3
  have d4' : decode c.code (pc + 4) = .ok (.ldc_w is, 3) := by rw [hb]; exact d4
  have hstr' : vk_R own is text sa s' := vk_R.warm hW0 hstr
  obtain ⟨U, hsteps, hrun, hend, hW, hsame, ce, hce, hO⟩ := X₁.ctorThrowS hexec htr (own := own) (cls := cls) (names := names) (ic := ic) hown' hcls hnames h (fun x hx => nomatch hx) hfX hkX hcellA (by rw [hhp, hT]; exact Nat.le_refl _) (msg := .ref sa) rfl
    (g := { method := m, pc := pc + 7, locals := ls, stack := .ref sa :: .ref T.heap.size :: .ref T.heap.size :: rest, locked := none }) rfl hsize rfl rfl (rest := rest) rfl
    (by rw [hb]; exact d7) (by rw [hb]; exact d10) hout hRframes (by simp only [List.map_cons, List.sum_cons, hcat]; omega) hlocks
  obtain ⟨f1, f2⟩ := vx_frame hsame
  rw [hhp] at f1 f2
  have hWs : s.WarmedH U.vm := State.WarmedH.trans hW0 hW
  have hcl : s.vm.findClass cls = some ce.cls := by
    have h9 := hO.cls
    rw [hvm] at h9
    exact h9
  have hall : s.sameButNew ({ U with vm := s.vm } : State) locs mc ms := by
    subst hA
    obtain ⟨e1, e2⟩ := hsame
    rw [State.setFrames_setFrames] at e1
    have h2 : (T.setVm s.vm).sameButNew ({ U with vm := s.vm } : State) [] (0 + 1) (0 + 6) := ⟨e1, e2⟩
    have h3 := X.same.trans h2
    rw [List.append_nil] at h3
    exact h3.mono hc hs
  refine ⟨U, ?_, .threw T.heap.size, hrun, hend, Or.inr ⟨T.heap.size, rfl, cls, ce, locs, hx U hWs.alike f1 (fun q hq => f2 q hq (fun z hz => nomatch hz)), hce, hO.vm, hcl, hWs, hall, hf⟩⟩
  refine st1 _ ?_
  show Steps p.tables e below (T1.setTop { method := m, pc := pc + 3, locals := ls, stack := .ref T.heap.size :: rest, locked := none }) _
  jvm_step X₁.here [X₁.here.top, hexec, d3', Value.category]
  exact X₁.ldcStringW hexec (own := own) (text := text) (index := is) (a := sa) hown' hstr'.1 hstr'.2
    (g := { method := m, pc := pc + 4, locals := ls, stack := .ref T.heap.size :: .ref T.heap.size :: rest, locked := none }) rfl d4' _ hsteps
end Ends
section Bodies
variable {l : Launch}
theorem vx_ofW {y : MethodName} {ws ws' : List Cond} {rm : Room} {Pc : Array Value → State → Prop} {Qc : Array Value → State → Outcome → State → Prop} {XC : String → State → State → Prop} {mc ms : Nat} {free : Addr → Prop} {cc : ByteArray} {maxL : Nat} {ret : Option FieldType}
    (hy : plainName y.cls = true) (hw : ws = Cond.code y cc maxL ret :: ws')
    (body : ∀ p e s m args below meth c s₁, BodyLoose p l y (headSpec ws rm) cc maxL ret e s m args below meth c s₁ → c.maxLocals = maxL → (∀ x ∈ c.exceptionTable.toList, False) → Pc args s →
      W p l e (headSpec ws rm).room s m args below meth c s.heap [] 0 0 (vx_MQ below Qc XC args s mc ms free) (entryFrame m args maxL)) : vx_Met l y ws rm Pc Qc XC mc ms free := by
  refine MetFree.of_bodyS (code := cc) (maxLocals := maxL) (ret := ret) hy ?_ ?_
  · intro args s m h hn
    obtain ⟨meth, c, h1, h2, h3, h4, h5, h6, -, -⟩ := Cond.code_spec hn (atoms_spec (ws := ws) h _ (by rw [hw]; exact List.mem_cons_self))
    exact ⟨meth, c, h1, h2, h3, h4, h5, h6⟩
  · intro p e s m args below meth c s₁ B hml hP _
    have hh0 : s₁.heap = s.heap := by rw [B.state]; rfl
    have ht : ∀ x ∈ c.exceptionTable.toList, False := by
      obtain ⟨meth9, c9, h1, h2, -, -, -, -, h7, -⟩ := Cond.code_spec B.named (atoms_spec (ws := ws) B.pre _ (by rw [hw]; exact List.mem_cons_self))
      cases Option.some.inj (h1.symm.trans B.method)
      cases Option.some.inj (h2.symm.trans (Stand.of_body B).code)
      intro x hx
      rw [Array.isEmpty_iff.mp h7] at hx
      cases hx
    obtain ⟨t, a1, o, b1, b2, b3⟩ := body p e s m args below meth c s₁ B hml ht hP s₁ hh0 (Stand.of_body B)
    exact ⟨t, o, a1, b1, b2, b3⟩
/-- the table of a body with handlers -/
theorem vx_table {p : Program} {x y : MethodName} {S : Spec} {cc bytes : ByteArray} {maxL maxL' : Nat} {ret ret' : Option FieldType} {e : Env} {s s₁ : State} {m : MethodId} {args : Array Value} {below : List Frame} {meth : Method} {c : Code} {hh : List (Nat × Nat × Nat × Nat)}
    (B : BodyLoose p l y S cc maxL ret e s m args below meth c s₁) (h : (Cond.codeWith y bytes maxL' ret' hh).before args s = true) : c.exceptionTable.toList = tableOf hh := by
  obtain ⟨m9, meth9, c9, hn9, h1, h2, -, -, h6, -⟩ := Cond.codeWith_spec h
  cases Option.some.inj (hn9.symm.trans B.named)
  cases Option.some.inj (h1.symm.trans B.method)
  cases Option.some.inj (h2.symm.trans (Stand.of_body B).code)
  rw [← h6, table_eq]
end Bodies
end VXA
/-! ===== END ===== -/
/-! ===== BEGIN a static call of a method with an exception table ===== -/
section VXS
variable {p : Program} {l : Launch} {e : Env} {R : Room} {s : State} {m : MethodId} {args : Array Value} {below : List Frame} {meth : Method} {c : Code} {T : State} {H : Heap} {locs : List Loc} {cells slots : Nat}
abbrev vx_CSW (R : Room) (s : State) (args : Array Value) (own : String) (index : Nat) (y : MethodName) (bytes : ByteArray) (maxL : Nat) (ret : Option FieldType) (hh : List (Nat × Nat × Nat × Nat)) (ws : List Cond) (rm : Room) (mc ms n : Nat) : Prop :=
  (rm.cells = mc ∧ rm.slots = ms ∧ rm.frames + 1 ≤ R.frames ∧ 8 + (maxL + 11) + rm.locals ≤ R.locals ∧ (∀ w ∈ ws, ∀ (a' : Array Value) (U : State), s.WarmedH U.vm → w.before a' U = true) ∧ Cond.codeWith y bytes maxL ret hh ∈ ws) ∧
  (Cond.codeWith y bytes maxL ret hh).before args s = true ∧ (Cond.initialized y.cls).before args s = true ∧ (y.cls ≠ "java/lang/invoke/MethodHandle" ∧ y.cls ≠ "java/lang/invoke/VarHandle") ∧
  (∀ sig, parseMethodDescriptor y.desc = some sig → n = sig.parameters.length) ∧ (Cond.methodLink own index y).before args s = true ∧ (Cond.static y).before args s = true
theorem vx_cwSW {own : String} {index maxL mc ms : Nat} {y : MethodName} {bytes : ByteArray} {ret : Option FieldType} {hh : List (Nat × Nat × Nat × Nat)} {Ts ws ws' : List Cond} {rm : Room} (n : Nat) (ht : ∀ w ∈ Ts, w.before args s = true) (hT : GoodIn Ts (va_wsS own index y ws)) (hw : ws = Cond.codeWith y bytes maxL ret hh :: ws') (hrc : rm.cells = mc) (hrs : rm.slots = ms)
    (hd : y.cls ≠ "java/lang/invoke/MethodHandle" ∧ y.cls ≠ "java/lang/invoke/VarHandle" ∧ (parseMethodDescriptor y.desc).map (fun d => d.parameters.length) = some n) (hR : rm.frames + 1 ≤ R.frames ∧ 8 + (maxL + 11) + rm.locals ≤ R.locals) :
    vx_CSW R s args own index y bytes maxL ret hh ws rm mc ms n := by
  have ok : ∀ w ∈ va_wsS own index y ws, w.before args s = true := fun w h => ht w (hT w h).1
  have hG : GoodIn Ts ws := fun w h => hT w (by unfold va_wsS; exact List.mem_append_right _ h)
  have hc : Cond.codeWith y bytes maxL ret hh ∈ ws := by rw [hw]; exact List.mem_cons_self
  refine ⟨⟨hrc, hrs, hR.1, hR.2, pay_in ht hG, hc⟩, ht _ (hG _ hc).1, ok _ (by simp [va_wsS]), ⟨hd.1, hd.2.1⟩, fun sig h => ?_, ok _ (by simp [va_wsS]), ok _ (by simp [va_wsS])⟩
  have h2 := hd.2.2
  rw [h] at h2
  exact (Option.some.inj h2).symm
theorem vx_callSW (X : Stand p l e R s m args below meth c T locs cells slots) (hexec : p.tables.exec = Jvm.exec) {own : String} {index : Nat} {y : MethodName} {bytes : ByteArray} {maxL : Nat} {ret : Option FieldType} {hh : List (Nat × Nat × Nat × Nat)}
    (hown : s.vm.findClass own = some m.cls) (hlink : (Cond.methodLink own index y).before args s = true) (hstat : (Cond.static y).before args s = true) (hinit : (Cond.initialized y.cls).before args s = true)
    (hcode : (Cond.codeWith y bytes maxL ret hh).before args s = true) (hy : y.cls ≠ "java/lang/invoke/MethodHandle" ∧ y.cls ≠ "java/lang/invoke/VarHandle")
    {W9 : Nat} {Pre : Pt → Array Value → Prop} {Post : Pt → Array Value → Option Value → Pt → Prop} (hK : Back l R p e below s args y 3 W9 Pre Post)
    {g : JFrame} (hg : g.method = m) (hsize : g.locals.size = c.maxLocals) {argsL rest : List Value} (hlen : ∀ sig, parseMethodDescriptor y.desc = some sig → argsL.length = sig.parameters.length)
    (hstack : g.stack = argsL.reverse ++ rest) (hW : 2 * g.monitorRoom + (rest.map fun v => v.category).sum ≤ W9) (hdg : decode c.code g.pc = .ok (.invokestatic index, 3))
    (hpre : ∀ vm₁, s.WarmedH vm₁ → Pre ⟨T.setVm vm₁, locs, cells, slots⟩ argsL.toArray) :
    ∃ (v : Option Value) (vm₁ : Vm) (B : Pt), s.WarmedH vm₁ ∧ Stand p l e R s m args below meth c B.U B.locs B.cells B.slots ∧ Post ⟨T.setVm vm₁, locs, cells, slots⟩ argsL.toArray v B ∧
      ∀ target, Steps p.tables e below (B.U.setTop { g with pc := g.pc + 3, stack := v.toList ++ rest }) target → Steps p.tables e below (T.setTop g) target := by
  obtain ⟨mk, methM, cM, hnamed, hmethM, -, -, -, -, -, -, hsigM⟩ := Cond.codeWith_spec hcode
  have hstatic : methM.isStatic = true := Cond.static_spec hnamed hmethM hstat
  obtain ⟨kP, hkP, -⟩ := className_of_methodNamed hnamed
  have hinitP : kP.init = .initialized := Cond.initialized_spec (findClass_of_methodNamed hnamed) hkP hinit
  obtain ⟨vm₁, X₁, hstep₁⟩ := X.invokestatic hexec hown hlink hnamed hmethM hstatic hkP hinitP hy (g := g) hg (argsL := argsL) (rest := rest) (hlen _ hsigM) hstack hdg
  obtain ⟨v, B, X', hpost, hsteps⟩ := hK m meth c ⟨T.setVm vm₁, locs, cells, slots⟩ { g with stack := rest } (.invokestatic index) mk argsL.toArray X₁ hg hsize hdg hW (X₁.named hnamed) (hpre vm₁ X₁.warmed)
  exact ⟨v, vm₁, B, X₁.warmed, X', hpost, fun target h => hstep₁ _ fun acts => by rw [doInvoke_state]; exact hsteps.trans h⟩
theorem vx_runSW {y : MethodName} {bytes cc : ByteArray} {maxL nL mc ms n index : Nat} {ret : Option FieldType} {hh : List (Nat × Nat × Nat × Nat)} {ws : List Cond} {rm : Room} {Pc : Array Value → State → Prop} {Qc : Array Value → State → Outcome → State → Prop} {free : Addr → Prop} {Ts : List Cond} {own : String} {As rest : List Value} {g : JFrame}
    (S : CallFix p m c cc nL s args Ts own) (hM : Met l y ws rm Pc Qc mc ms free) (cw : vx_CSW R s args own index y bytes maxL ret hh ws rm mc ms n) (hp : PreS s H Pc As)
    (hg : g.method = m) (hn : As.length = n) (hsize : g.locals.size = nL) (hstack : g.stack = As.reverse ++ rest) (hW : 2 * g.monitorRoom + (rest.map fun v => v.category).sum ≤ 8) (hdg : decode cc g.pc = .ok (.invokestatic index, 3)) (hf : cells + mc ≤ R.cells ∧ slots + ms ≤ R.slots) :
    va_Run p l e R s m args below meth c H locs cells slots mc ms g rest (Qc As.toArray) (free) := by
  obtain ⟨⟨hrc, hrs, hfr, hlo, hws, hcw⟩, hcode, hini, hy, hlen, hl, hstt⟩ := cw
  have hK : Back l R p e below s args y 3 8 (PreOf R mc ms Pc) (PostOf Qc mc ms free) := va_backW (hh := hh) (bytes := bytes) (maxL := maxL) (ret := ret) hM hp.1 hrc hrs hfr hlo hws hcw (fun a' U hW => word_at hW (Or.inl (by first | rfl | simp [Cond.onTables, Cond.keeps, Cond.steady])) hini)
  obtain ⟨hx, hb, hml, ho, -⟩ := S
  intro T hT X
  obtain ⟨v, vm₁, ⟨U', l2, c2, s2⟩, hW₁, X', ⟨g', mk, t, L, e1, e2, hq, h1, hL, h2, h3⟩, st⟩ := vx_callSW X hx (hh := hh) (bytes := bytes) (maxL := maxL) (ret := ret) ho hl hstt hini hcode hy hK hg (hsize.trans hml.symm) (argsL := As) (rest := rest) (fun sig h => hn.trans (hlen sig h)) hstack hW (by rw [hb]; exact hdg)
    (fun vm₁ hW₁ => ⟨hf.1, hf.2, hp.2 (T.setVm vm₁) hT hW₁⟩)
  dsimp only [Pt.U, Pt.locs, Pt.cells, Pt.slots] at X' e1 e2 h1 h2 h3 st
  subst h1; subst h2; subst h3
  exact ⟨v, (T.setVm vm₁).calling g' mk As.toArray, t, U', L, hT, X', hL, e1, e2, hq, st⟩
/-- not caught here, past rows that name other classes: it goes on to the caller -/
theorem vx_outP {p : Program} {l : Launch} {e : Env} {R : Room} {s : State} {m : MethodId} {args : Array Value} {below : List Frame} {meth : Method} {c : Code} {H : Heap} {locs : List Loc} {cells slots : Nat} {free : Addr → Prop} {ls : Array Slot} {rest : List Value} {Qc : Array Value → State → Outcome → State → Prop} {XC : String → State → State → Prop}
    {pc : Nat} {own E : String} {ce : Cell} {q : Addr} {mc ms : Nat} (hown : s.vm.findClass own = some m.cls) (hlocks : meth.locks = false)
    (hpass : ∀ z ∈ c.exceptionTable.toList, covers z pc = false ∨ (z.catchType ≠ 0 ∧ ∃ nm : String, (Cond.classLink own z.catchType nm).before args s = true ∧ va_Nc E nm s)) (hcell : H[q]? = some ce) (hv : ce.vm = .none) (hcl : s.vm.findClass E = some ce.cls)
    (hx : ∀ t : State, t.heap = H → s.vm.Alike t.vm → XC E s t) (hf : ∀ z ∈ locs, free z.base) (hc : cells ≤ mc) (hs : slots ≤ ms) :
    vx_W p l e R s m args below meth c H locs cells slots (vx_MQ below Qc XC args s mc ms free) (F0 m pc ls rest) q := by
  intro T hT X
  have hpl : e.platform.magicAccessors = ({} : Platform).magicAccessors := by rw [X.admits.platform]
  obtain ⟨vm', hW', X', st⟩ := X.outThrough hlocks q (g := F0 m pc ls rest) rfl rfl rfl (cell := ce) (by rw [hT]; exact hcell) (by rw [hv]; rfl)
    (by obtain ⟨k9, h9, -⟩ := Vm.findClass_spec hcl; exact ⟨k9, h9⟩) (fun z hz => by
      rcases hpass z hz with h | ⟨hz0, nm, hl1, hn1⟩
      · exact Or.inl h
      · obtain ⟨c6, hc6, hcl6⟩ := Cond.classLink_spec hown hl1 e.platform hpl
        obtain ⟨a8, b8, h1, h2, h3⟩ := hn1
        cases Option.some.inj (h1.symm.trans hcl)
        cases Option.some.inj (h2.symm.trans hc6)
        exact Or.inr ⟨hz0, _, hcl6, h3⟩)
  obtain ⟨g₀, hfr⟩ := X'.frames_eq
  have hcell9 : ((T.setVm vm').setFrames (.throwing q :: below)).heap[q]? = some ce := by
    show T.heap[q]? = some ce
    rw [hT]; exact hcell
  have hend : Ended ((T.setVm vm').setFrames (.throwing q :: below)) below (.threw q) := State.frames_setFrames _ (State.cur_lt_of_frames hfr)
  refine ⟨(T.setVm vm').setFrames (.throwing q :: below), ?_, .threw q, X'.here.running, hend, Or.inr ⟨q, rfl, E, ce, locs, hx _ hT (X'.ends _).1.alike, hcell9, hv, hcl, (X'.ends _).1, (X'.ends _).2.mono hc hs, hf⟩⟩
  rw [X.pushThrowing_eq]
  exact st
/-- a thing of a world lies in the heap -/
theorem vx_lt {D : va_G} {cl : List vw_C} {ws : va_W} {H1 : Heap} (h : va_P D cl ws H1) {k : Nat} {q : Nat × va_E} (hk : ws[k]? = some q) : q.1 < H1.size := (h k q hk).lt
end VXS
/-! ===== END ===== -/
/-! ===== BEGIN methods with a table of their own: called by a name, returning or throwing ===== -/
section VXH
/-! vx_backW, vx_callVX, vx_callSX, vx_callVW, vx_runVW, vx_runVX, vx_runSX, vx_ofWH follow the same proofs as their sisters above (Free/Laws.lean, Shelf42/LK1.lean); vx_outP calls Shelf42/NT130.lean (outThrough). -/
section
variable {l : Launch} {R : Room} {p : Program} {e : Env} {below : List Frame} {s : State} {sargs : Array Value} {y : MethodName} {len W9 : Nat}
theorem vx_backW {ws : List Cond} {rm : Room} {Pc : Array Value → State → Prop} {Qc : Array Value → State → Outcome → State → Prop} {XC : String → State → State → Prop} {mc ms : Nat} {free : Addr → Prop} {bytes : ByteArray} {maxL : Nat} {ret : Option FieldType} {hh : List (Nat × Nat × Nat × Nat)}
    (hM : vx_Met l y ws rm Pc Qc XC mc ms free) (hblind : FrameBlind Pc) (hrc : rm.cells = mc) (hrs : rm.slots = ms)
    (hframes : rm.frames + 1 ≤ R.frames) (hlocals : W9 + (maxL + 11) + rm.locals ≤ R.locals)
    (hws : ∀ w ∈ ws, ∀ a' U, s.WarmedH U.vm → w.before a' U = true) (hcode : Cond.codeWith y bytes maxL ret hh ∈ ws) (hinit : ∀ a' U, s.WarmedH U.vm → (Cond.initialized y.cls).before a' U = true) :
    vx_Back l R p e below s sargs y len W9 (PreOf R mc ms Pc) (PostOf Qc mc ms free) (vx_Post XC mc ms free) := by
  intro m meth c A g ig mk a X hg hsize hdg hW hn hp
  have h1 : (headSpec ws rm).pre.before a A.U = true := atoms_intro fun w hw => hws w hw _ _ X.warmed
  have h2 : (Cond.codeWith y bytes maxL ret hh).before a A.U = true := hws _ hcode _ _ X.warmed
  have h3 : (Cond.initialized y.cls).before a A.U = true := hinit _ _ X.warmed
  have h4 : A.cells + (headSpec ws rm).room.cells ≤ R.cells := by rw [show (headSpec ws rm).room.cells = mc from hrc]; exact hp.1
  have h5 : A.slots + (headSpec ws rm).room.slots ≤ R.slots := by rw [show (headSpec ws rm).room.slots = ms from hrs]; exact hp.2.1
  have hPc : Pc a (A.U.calling g mk a) := hblind _ _ _ _ hp.2.2
  obtain ⟨U, Ls, c0, s0⟩ := A
  dsimp only [Pt.U, Pt.locs, Pt.cells, Pt.slots] at h1 h2 h3 h4 h5 X hn hPc ⊢
  obtain ⟨m9, methY, cY, hn9, hmY, hcY, -, hlY, -⟩ := Cond.codeWith_spec h2
  cases Option.some.inj (hn9.symm.trans hn)
  obtain ⟨kY, hkY, -⟩ := className_of_methodNamed hn
  have hinitY : kY.init = .initialized := Cond.initialized_spec (findClass_of_methodNamed hn) hkY h3
  have h : At U g.method c below := by rw [hg]; exact X.here
  have hlocals9 : W9 + (maxL + 11) + (headSpec ws rm).room.locals ≤ R.locals := hlocals
  have happ : (headSpec ws rm).appliesLoose y e.platform (U.calling g mk a) = true :=
    Spec.appliesLoose_calling (g := g) h hdg hn hkY hinitY
      (X.room_calling (g := g) (R' := (headSpec ws rm).room) hsize hmY hcY hframes (by rw [hlY]; omega) h4 h5) h1
  obtain ⟨mid, hmid⟩ := h.above
  have hfr : (U.setTop g).frames = (.java g :: mid) ++ below := by rw [State.frames_setTop' g h.top, hmid]; rfl
  obtain ⟨o, s₂, hsteps, -, hend, hq⟩ := Steps.callFree hM p X.admits X.cas X.clock (acts := []) hfr happ hPc trivial
  have hq' : vx_Q Qc XC mc ms free a (U.calling g mk a) o s₂ := hq
  rw [State.frames_setTop' g h.top] at hend
  obtain ⟨g₀, hg0⟩ := Option.isSome_iff_exists.mp h.top
  obtain ⟨r, hr⟩ := State.topJava?_eq_some.mp hg0
  have hr' : (({ U with heap := s₂.heap, slotsUsed := s₂.slotsUsed } : State).setVm s₂.vm).frames = .java g₀ :: r := hr
  rcases hq' with ⟨hqc, L, hfe, hL⟩ | ⟨q, rfl, E, ce, L, hx, hce, hcv, hcl, hW₂, hsm, hL⟩
  · obtain ⟨⟨v, rfl⟩, hW₂, e2, q2, q3, q4, q5, q6⟩ := id hfe
    have e3 : s₂ = ({ (U.calling g mk a).setFrames s₂.frames with heap := s₂.heap, slotsUsed := s₂.slotsUsed } : State).setVm s₂.vm := by
      have : s₂ = ({ s₂ with vm := (U.calling g mk a).vm } : State).setVm s₂.vm := rfl
      rw [e2] at this
      exact this
    obtain ⟨c₂, i₂, len₂, hc₂, hd₂, hf₂⟩ := hend
    have hW' : U.WarmedH s₂.vm := hW₂
    have hcc : c₂ = c := by
      have h1 : s₂.code? g.method = U.code? g.method := by
        rw [State.code?_eq, State.code?_eq, hW'.alike.method?]
      exact Option.some.inj (hc₂.symm.trans (h1.trans h.code))
    subst hcc
    have hlen : len₂ = len := by rw [hdg] at hd₂; cases hd₂; rfl
    subst hlen
    have hs₂ : s₂ = (({ U with heap := s₂.heap, slotsUsed := s₂.slotsUsed } : State).setVm s₂.vm).setTop { g with pc := g.pc + len₂, stack := v.toList ++ g.stack } := by
      refine e3.trans ?_
      rw [hf₂, State.calling_eq h.top, State.setFrames_setFrames, State.setTop_of_frames _ hr', hr]
      rfl
    have hsame : U.sameButNew ({ U with heap := s₂.heap, slotsUsed := s₂.slotsUsed } : State) L mc ms := by
      refine ⟨?_, q2, q3, q4, q5, q6⟩
      obtain ⟨t, ht, -⟩ := State.frames_cons hr
      show ({ U with heap := s₂.heap, slotsUsed := s₂.slotsUsed } : State) = { U.setFrames U.frames with heap := s₂.heap, slotsUsed := s₂.slotsUsed }
      rw [State.setFrames_self ht]
    subst hg
    refine Or.inl ⟨v, ⟨(({ U with heap := s₂.heap, slotsUsed := s₂.slotsUsed } : State).setVm s₂.vm), Ls ++ L, c0 + mc, s0 + ms⟩,
      ⟨X.admits, X.cas, X.clock, X.frames, X.room, X.hears, X.method, X.code, (X.here.setHeapUsed s₂.heap s₂.slotsUsed).setVm hW'.alike, X.tail, State.WarmedH.trans X.warmed hW', X.limits, X.bytes, X.same.trans (hsame.setVm s.vm)⟩,
      ⟨g, mk, s₂, L, rfl, rfl, hqc, rfl, hL, rfl, rfl⟩, ?_⟩
    show Steps p.tables e below _ ((({ U with heap := s₂.heap, slotsUsed := s₂.slotsUsed } : State).setVm s₂.vm).setTop { g with pc := g.pc + len₂, stack := v.toList ++ g.stack })
    rw [← hs₂]
    exact hsteps
  · obtain ⟨e2, q2, q3, q4, q5, q6⟩ := id hsm
    have e3 : s₂ = ({ (U.calling g mk a).setFrames s₂.frames with heap := s₂.heap, slotsUsed := s₂.slotsUsed } : State).setVm s₂.vm := by
      have : s₂ = ({ s₂ with vm := (U.calling g mk a).vm } : State).setVm s₂.vm := rfl
      rw [e2] at this
      exact this
    have hf₂ : s₂.frames = .throwing q :: .java g :: U.frames.tail := hend
    have hW' : U.WarmedH s₂.vm := hW₂
    have hs₂ : s₂ = ((({ U with heap := s₂.heap, slotsUsed := s₂.slotsUsed } : State).setVm s₂.vm).setTop g).pushFrame (.throwing q) := by
      refine e3.trans ?_
      rw [hf₂, State.calling_eq h.top, State.setFrames_setFrames, State.pushFrame, State.frames_setTop _ hr', State.setTop_of_frames _ hr', State.setFrames_setFrames, hr]
      rfl
    have hsame : U.sameButNew ({ U with heap := s₂.heap, slotsUsed := s₂.slotsUsed } : State) L mc ms := by
      refine ⟨?_, q2, q3, q4, q5, q6⟩
      obtain ⟨t, ht, -⟩ := State.frames_cons hr
      show ({ U with heap := s₂.heap, slotsUsed := s₂.slotsUsed } : State) = { U.setFrames U.frames with heap := s₂.heap, slotsUsed := s₂.slotsUsed }
      rw [State.setFrames_self ht]
    subst hg
    refine Or.inr ⟨q, ⟨(({ U with heap := s₂.heap, slotsUsed := s₂.slotsUsed } : State).setVm s₂.vm), Ls ++ L, c0 + mc, s0 + ms⟩,
      ⟨X.admits, X.cas, X.clock, X.frames, X.room, X.hears, X.method, X.code, (X.here.setHeapUsed s₂.heap s₂.slotsUsed).setVm hW'.alike, X.tail, State.WarmedH.trans X.warmed hW', X.limits, X.bytes, X.same.trans (hsame.setVm s.vm)⟩,
      ⟨g, mk, s₂, L, E, ce, rfl, rfl, hx, hce, hcv, hcl, rfl, hL, rfl, rfl⟩, ?_⟩
    show Steps p.tables e below _ (((({ U with heap := s₂.heap, slotsUsed := s₂.slotsUsed } : State).setVm s₂.vm).setTop g).pushFrame (.throwing q))
    rw [← hs₂]
    exact hsteps
end
variable {p : Program} {l : Launch} {e : Env} {R : Room} {s : State} {m : MethodId} {args : Array Value} {below : List Frame} {meth : Method} {c : Code} {T : State} {H : Heap} {locs : List Loc} {cells slots : Nat}
theorem vx_callVX (X : Stand p l e R s m args below meth c T locs cells slots) (hexec : p.tables.exec = Jvm.exec) {own C : String} {index : Nat} {y : MethodName} {bytes : ByteArray} {maxL : Nat} {ret : Option FieldType} {hh : List (Nat × Nat × Nat × Nat)}
    (hown : s.vm.findClass own = some m.cls) (hlink : (Cond.methodLink own index y).before args s = true) (hinst : (Cond.instanceMethod y).before args s = true) (hsel : (Cond.selects C y y).before args s = true)
    (hcode : (Cond.codeWith y bytes maxL ret hh).before args s = true) (hy : y.cls ≠ "java/lang/invoke/MethodHandle" ∧ y.cls ≠ "java/lang/invoke/VarHandle")
    {W9 : Nat} {Pre : Pt → Array Value → Prop} {Post : Pt → Array Value → Option Value → Pt → Prop} {PostX : Pt → Array Value → Addr → Pt → Prop} (hK : vx_Back l R p e below s args y 3 W9 Pre Post PostX)
    {b : Addr} {cellB : Cell} (hcell : T.heap[b]? = some cellB) (hobj : cellB.vm.isStatics = false) (hcls : s.vm.findClass C = some cellB.cls)
    {g : JFrame} (hg : g.method = m) (hsize : g.locals.size = c.maxLocals) {argsL rest : List Value} (hlen : ∀ sig, parseMethodDescriptor y.desc = some sig → argsL.length = sig.parameters.length)
    (hstack : g.stack = argsL.reverse ++ .ref b :: rest) (hW : 2 * g.monitorRoom + (rest.map fun v => v.category).sum ≤ W9) (hdg : decode c.code g.pc = .ok (.invokevirtual index, 3))
    (hpre : ∀ vm₁, s.WarmedH vm₁ → Pre ⟨T.setVm vm₁, locs, cells, slots⟩ (Value.ref b :: argsL).toArray) :
    (∃ (v : Option Value) (vm₁ : Vm) (B : Pt), s.WarmedH vm₁ ∧ Stand p l e R s m args below meth c B.U B.locs B.cells B.slots ∧ Post ⟨T.setVm vm₁, locs, cells, slots⟩ (Value.ref b :: argsL).toArray v B ∧
      ∀ target, Steps p.tables e below (B.U.setTop { g with pc := g.pc + 3, stack := v.toList ++ rest }) target → Steps p.tables e below (T.setTop g) target) ∨
    (∃ (q : Addr) (vm₁ : Vm) (B : Pt), s.WarmedH vm₁ ∧ Stand p l e R s m args below meth c B.U B.locs B.cells B.slots ∧ PostX ⟨T.setVm vm₁, locs, cells, slots⟩ (Value.ref b :: argsL).toArray q B ∧
      Steps p.tables e below (T.setTop g) ((B.U.setTop { g with stack := rest }).pushFrame (.throwing q))) := by
  obtain ⟨mk, methM, hnamed, hmethM, hstM, habM⟩ := Cond.instanceMethod_spec hinst
  obtain ⟨m8, methM', cM, hn8, hmethM', -, -, -, -, -, -, hsigM⟩ := Cond.codeWith_spec hcode
  cases Option.some.inj (hn8.symm.trans hnamed)
  cases hmethM.symm.trans hmethM'
  obtain ⟨c2, r2, m2, q1, q2, q3, q4, kP, hkP, hkPi⟩ := Cond.selects_spec hsel
  cases hcls.symm.trans q1
  cases (State.methodFound?_of_named hnamed hy).symm.trans q2
  cases hnamed.symm.trans q3
  have hselP : selectMethod e.platform s.vm cellB.cls mk = .method mk := by rw [Launch.admits_selectMethod X.admits]; exact q4
  obtain ⟨vm₁, X₁, hstep₁⟩ := X.invokevirtual hexec hown hlink hnamed hmethM hstM hkP hkPi hy (a := b) (cell := cellB) hcell
    (fun z h => by rw [h] at hobj; cases hobj) hselP hmethM habM hkP hkPi (g := g) hg (argsL := argsL) (rest := rest) (hlen _ hsigM) hstack hdg
  rcases hK m meth c ⟨T.setVm vm₁, locs, cells, slots⟩ { g with stack := rest } (.invokevirtual index) mk (Value.ref b :: argsL).toArray X₁ hg hsize hdg hW (X₁.named hnamed) (hpre vm₁ X₁.warmed) with ⟨v, B, X', hpost, hsteps⟩ | ⟨q, B, X', hpost, hsteps⟩
  · exact Or.inl ⟨v, vm₁, B, X₁.warmed, X', hpost, fun target h => hstep₁ _ fun acts => by rw [doInvoke_state]; exact hsteps.trans h⟩
  · exact Or.inr ⟨q, vm₁, B, X₁.warmed, X', hpost, hstep₁ _ fun acts => by rw [doInvoke_state]; exact hsteps⟩
theorem vx_callSX (X : Stand p l e R s m args below meth c T locs cells slots) (hexec : p.tables.exec = Jvm.exec) {own : String} {index : Nat} {y : MethodName} {bytes : ByteArray} {maxL : Nat} {ret : Option FieldType} {hh : List (Nat × Nat × Nat × Nat)}
    (hown : s.vm.findClass own = some m.cls) (hlink : (Cond.methodLink own index y).before args s = true) (hstat : (Cond.static y).before args s = true) (hinit : (Cond.initialized y.cls).before args s = true)
    (hcode : (Cond.codeWith y bytes maxL ret hh).before args s = true) (hy : y.cls ≠ "java/lang/invoke/MethodHandle" ∧ y.cls ≠ "java/lang/invoke/VarHandle")
    {W9 : Nat} {Pre : Pt → Array Value → Prop} {Post : Pt → Array Value → Option Value → Pt → Prop} {PostX : Pt → Array Value → Addr → Pt → Prop} (hK : vx_Back l R p e below s args y 3 W9 Pre Post PostX)
    {g : JFrame} (hg : g.method = m) (hsize : g.locals.size = c.maxLocals) {argsL rest : List Value} (hlen : ∀ sig, parseMethodDescriptor y.desc = some sig → argsL.length = sig.parameters.length)
    (hstack : g.stack = argsL.reverse ++ rest) (hW : 2 * g.monitorRoom + (rest.map fun v => v.category).sum ≤ W9) (hdg : decode c.code g.pc = .ok (.invokestatic index, 3))
    (hpre : ∀ vm₁, s.WarmedH vm₁ → Pre ⟨T.setVm vm₁, locs, cells, slots⟩ argsL.toArray) :
    (∃ (v : Option Value) (vm₁ : Vm) (B : Pt), s.WarmedH vm₁ ∧ Stand p l e R s m args below meth c B.U B.locs B.cells B.slots ∧ Post ⟨T.setVm vm₁, locs, cells, slots⟩ argsL.toArray v B ∧
      ∀ target, Steps p.tables e below (B.U.setTop { g with pc := g.pc + 3, stack := v.toList ++ rest }) target → Steps p.tables e below (T.setTop g) target) ∨
    (∃ (q : Addr) (vm₁ : Vm) (B : Pt), s.WarmedH vm₁ ∧ Stand p l e R s m args below meth c B.U B.locs B.cells B.slots ∧ PostX ⟨T.setVm vm₁, locs, cells, slots⟩ argsL.toArray q B ∧
      Steps p.tables e below (T.setTop g) ((B.U.setTop { g with stack := rest }).pushFrame (.throwing q))) := by
  obtain ⟨mk, methM, cM, hnamed, hmethM, -, -, -, -, -, -, hsigM⟩ := Cond.codeWith_spec hcode
  have hstatic : methM.isStatic = true := Cond.static_spec hnamed hmethM hstat
  obtain ⟨kP, hkP, -⟩ := className_of_methodNamed hnamed
  have hinitP : kP.init = .initialized := Cond.initialized_spec (findClass_of_methodNamed hnamed) hkP hinit
  obtain ⟨vm₁, X₁, hstep₁⟩ := X.invokestatic hexec hown hlink hnamed hmethM hstatic hkP hinitP hy (g := g) hg (argsL := argsL) (rest := rest) (hlen _ hsigM) hstack hdg
  rcases hK m meth c ⟨T.setVm vm₁, locs, cells, slots⟩ { g with stack := rest } (.invokestatic index) mk argsL.toArray X₁ hg hsize hdg hW (X₁.named hnamed) (hpre vm₁ X₁.warmed) with ⟨v, B, X', hpost, hsteps⟩ | ⟨q, B, X', hpost, hsteps⟩
  · exact Or.inl ⟨v, vm₁, B, X₁.warmed, X', hpost, fun target h => hstep₁ _ fun acts => by rw [doInvoke_state]; exact hsteps.trans h⟩
  · exact Or.inr ⟨q, vm₁, B, X₁.warmed, X', hpost, hstep₁ _ fun acts => by rw [doInvoke_state]; exact hsteps⟩
theorem vx_callVW (X : Stand p l e R s m args below meth c T locs cells slots) (hexec : p.tables.exec = Jvm.exec) {own C : String} {index : Nat} {y : MethodName} {bytes : ByteArray} {maxL : Nat} {ret : Option FieldType} {hh : List (Nat × Nat × Nat × Nat)}
    (hown : s.vm.findClass own = some m.cls) (hlink : (Cond.methodLink own index y).before args s = true) (hinst : (Cond.instanceMethod y).before args s = true) (hsel : (Cond.selects C y y).before args s = true)
    (hcode : (Cond.codeWith y bytes maxL ret hh).before args s = true) (hy : y.cls ≠ "java/lang/invoke/MethodHandle" ∧ y.cls ≠ "java/lang/invoke/VarHandle")
    {W9 : Nat} {Pre : Pt → Array Value → Prop} {Post : Pt → Array Value → Option Value → Pt → Prop} (hK : Back l R p e below s args y 3 W9 Pre Post)
    {b : Addr} {cellB : Cell} (hcell : T.heap[b]? = some cellB) (hobj : cellB.vm.isStatics = false) (hcls : s.vm.findClass C = some cellB.cls)
    {g : JFrame} (hg : g.method = m) (hsize : g.locals.size = c.maxLocals) {argsL rest : List Value} (hlen : ∀ sig, parseMethodDescriptor y.desc = some sig → argsL.length = sig.parameters.length)
    (hstack : g.stack = argsL.reverse ++ .ref b :: rest) (hW : 2 * g.monitorRoom + (rest.map fun v => v.category).sum ≤ W9) (hdg : decode c.code g.pc = .ok (.invokevirtual index, 3))
    (hpre : ∀ vm₁, s.WarmedH vm₁ → Pre ⟨T.setVm vm₁, locs, cells, slots⟩ (Value.ref b :: argsL).toArray) :
    ∃ (v : Option Value) (vm₁ : Vm) (B : Pt), s.WarmedH vm₁ ∧ Stand p l e R s m args below meth c B.U B.locs B.cells B.slots ∧ Post ⟨T.setVm vm₁, locs, cells, slots⟩ (Value.ref b :: argsL).toArray v B ∧
      ∀ target, Steps p.tables e below (B.U.setTop { g with pc := g.pc + 3, stack := v.toList ++ rest }) target → Steps p.tables e below (T.setTop g) target := by
  obtain ⟨mk, methM, hnamed, hmethM, hstM, habM⟩ := Cond.instanceMethod_spec hinst
  obtain ⟨m8, methM', cM, hn8, hmethM', -, -, -, -, -, -, hsigM⟩ := Cond.codeWith_spec hcode
  cases Option.some.inj (hn8.symm.trans hnamed)
  cases hmethM.symm.trans hmethM'
  obtain ⟨c2, r2, m2, q1, q2, q3, q4, kP, hkP, hkPi⟩ := Cond.selects_spec hsel
  cases hcls.symm.trans q1
  cases (State.methodFound?_of_named hnamed hy).symm.trans q2
  cases hnamed.symm.trans q3
  have hselP : selectMethod e.platform s.vm cellB.cls mk = .method mk := by rw [Launch.admits_selectMethod X.admits]; exact q4
  obtain ⟨vm₁, X₁, hstep₁⟩ := X.invokevirtual hexec hown hlink hnamed hmethM hstM hkP hkPi hy (a := b) (cell := cellB) hcell
    (fun z h => by rw [h] at hobj; cases hobj) hselP hmethM habM hkP hkPi (g := g) hg (argsL := argsL) (rest := rest) (hlen _ hsigM) hstack hdg
  obtain ⟨v, B, X', hpost, hsteps⟩ := hK m meth c ⟨T.setVm vm₁, locs, cells, slots⟩ { g with stack := rest } (.invokevirtual index) mk (Value.ref b :: argsL).toArray X₁ hg hsize hdg hW (X₁.named hnamed) (hpre vm₁ X₁.warmed)
  exact ⟨v, vm₁, B, X₁.warmed, X', hpost, fun target h => hstep₁ _ fun acts => by rw [doInvoke_state]; exact hsteps.trans h⟩
abbrev vx_CVW (R : Room) (s : State) (args : Array Value) (own C : String) (index : Nat) (y : MethodName) (bytes : ByteArray) (maxL : Nat) (ret : Option FieldType) (hh : List (Nat × Nat × Nat × Nat)) (ws : List Cond) (rm : Room) (mc ms n : Nat) : Prop :=
  (rm.cells = mc ∧ rm.slots = ms ∧ rm.frames + 1 ≤ R.frames ∧ 8 + (maxL + 11) + rm.locals ≤ R.locals ∧ (∀ w ∈ ws, ∀ (a' : Array Value) (U : State), s.WarmedH U.vm → w.before a' U = true) ∧ Cond.codeWith y bytes maxL ret hh ∈ ws) ∧
  (Cond.codeWith y bytes maxL ret hh).before args s = true ∧ (Cond.initialized y.cls).before args s = true ∧ (y.cls ≠ "java/lang/invoke/MethodHandle" ∧ y.cls ≠ "java/lang/invoke/VarHandle") ∧
  (∀ sig, parseMethodDescriptor y.desc = some sig → n = sig.parameters.length) ∧ (Cond.methodLink own index y).before args s = true ∧ (Cond.instanceMethod y).before args s = true ∧ (Cond.selects C y y).before args s = true
theorem vx_cwVW {own C : String} {index maxL mc ms : Nat} {y : MethodName} {bytes : ByteArray} {ret : Option FieldType} {hh : List (Nat × Nat × Nat × Nat)} {Ts ws ws' : List Cond} {rm : Room} (n : Nat) (ht : ∀ w ∈ Ts, w.before args s = true) (hT : GoodIn Ts (wsV own index C y ws)) (hw : ws = Cond.codeWith y bytes maxL ret hh :: ws') (hrc : rm.cells = mc) (hrs : rm.slots = ms)
    (hd : y.cls = C ∧ y.cls ≠ "java/lang/invoke/MethodHandle" ∧ y.cls ≠ "java/lang/invoke/VarHandle" ∧ (parseMethodDescriptor y.desc).map (fun d => d.parameters.length) = some n) (hR : rm.frames + 1 ≤ R.frames ∧ 8 + (maxL + 11) + rm.locals ≤ R.locals) :
    vx_CVW R s args own C index y bytes maxL ret hh ws rm mc ms n := by
  obtain ⟨hC, hd⟩ := hd
  subst hC
  have ok : ∀ w ∈ wsV own index y.cls y ws, w.before args s = true := fun w h => ht w (hT w h).1
  have hG : GoodIn Ts ws := fun w h => hT w (by unfold wsV; exact List.mem_append_right _ h)
  have hc : Cond.codeWith y bytes maxL ret hh ∈ ws := by rw [hw]; exact List.mem_cons_self
  refine ⟨⟨hrc, hrs, hR.1, hR.2, pay_in ht hG, hc⟩, ht _ (hG _ hc).1, ok _ (by simp [wsV]), ⟨hd.1, hd.2.1⟩, fun sig h => ?_, ok _ (by simp [wsV]), ok _ (by simp [wsV]), ok _ (by simp [wsV])⟩
  have h2 := hd.2.2
  rw [h] at h2
  exact (Option.some.inj h2).symm
theorem vx_runVW {y : MethodName} {bytes cc : ByteArray} {maxL nL mc ms n index : Nat} {ret : Option FieldType} {hh : List (Nat × Nat × Nat × Nat)} {ws : List Cond} {rm : Room} {Pc : Array Value → State → Prop} {Qc : Array Value → State → Outcome → State → Prop} {free : Addr → Prop} {Ts : List Cond} {own C : String} {b : Addr} {As rest : List Value} {g : JFrame}
    (S : CallFix p m c cc nL s args Ts own) (hM : Met l y ws rm Pc Qc mc ms free) (cw : vx_CVW R s args own C index y bytes maxL ret hh ws rm mc ms n) (hp : PreV s H C b Pc As)
    (hg : g.method = m) (hn : As.length = n) (hsize : g.locals.size = nL) (hstack : g.stack = As.reverse ++ .ref b :: rest) (hW : 2 * g.monitorRoom + (rest.map fun v => v.category).sum ≤ 8) (hdg : decode cc g.pc = .ok (.invokevirtual index, 3)) (hf : cells + mc ≤ R.cells ∧ slots + ms ≤ R.slots) :
    va_Run p l e R s m args below meth c H locs cells slots mc ms g rest (Qc (Value.ref b :: As).toArray) free := by
  obtain ⟨⟨hrc, hrs, hfr, hlo, hws, hcw⟩, hcode, hini, hy, hlen, hl, hin, hse⟩ := cw
  have hK : Back l R p e below s args y 3 8 (PreOf R mc ms Pc) (PostOf Qc mc ms free) := va_backW (hh := hh) (bytes := bytes) (maxL := maxL) (ret := ret) hM hp.1 hrc hrs hfr hlo hws hcw (fun a' U hW => word_at hW (Or.inl (by first | rfl | simp [Cond.onTables, Cond.keeps, Cond.steady])) hini)
  obtain ⟨hx, hb, hml, ho, -⟩ := S
  obtain ⟨-, ⟨cellB, hcB, hoB, hclB⟩, hPc⟩ := hp
  intro T hT X
  obtain ⟨v, vm₁, ⟨U', l2, c2, s2⟩, hW₁, X', ⟨g', mk, t, L, e1, e2, hq, h1, hL, h2, h3⟩, st⟩ := vx_callVW X hx (C := C) (hh := hh) (bytes := bytes) (maxL := maxL) (ret := ret) ho hl hin hse hcode hy hK (by rw [hT]; exact hcB) hoB hclB hg (hsize.trans hml.symm) (argsL := As) (rest := rest) (fun sig h => hn.trans (hlen sig h)) hstack hW (by rw [hb]; exact hdg)
    (fun vm₁ hW₁ => ⟨hf.1, hf.2, hPc (T.setVm vm₁) hT hW₁⟩)
  dsimp only [Pt.U, Pt.locs, Pt.cells, Pt.slots] at X' e1 e2 h1 h2 h3 st
  subst h1; subst h2; subst h3
  exact ⟨v, (T.setVm vm₁).calling g' mk (Value.ref b :: As).toArray, t, U', L, hT, X', hL, e1, e2, hq, st⟩
section
variable {y : MethodName} {bytes cc : ByteArray} {maxL nL mc ms n index : Nat} {ret : Option FieldType} {ws : List Cond} {rm : Room} {Pc : Array Value → State → Prop} {Qc : Array Value → State → Outcome → State → Prop} {XC : String → State → State → Prop} {free : Addr → Prop} {Ts : List Cond} {own C : String} {b : Addr} {As rest : List Value} {g : JFrame}
theorem vx_runVX {hh : List (Nat × Nat × Nat × Nat)} (S : CallFix p m c cc nL s args Ts own) (hM : vx_Met l y ws rm Pc Qc XC mc ms free) (cw : vx_CVW R s args own C index y bytes maxL ret hh ws rm mc ms n) (hp : PreV s H C b Pc As)
    (hg : g.method = m) (hn : As.length = n) (hsize : g.locals.size = nL) (hstack : g.stack = As.reverse ++ .ref b :: rest) (hW : 2 * g.monitorRoom + (rest.map fun v => v.category).sum ≤ 8) (hdg : decode cc g.pc = .ok (.invokevirtual index, 3)) (hf : cells + mc ≤ R.cells ∧ slots + ms ≤ R.slots) :
    vx_Run p l e R s m args below meth c H locs cells slots mc ms g rest (Qc (Value.ref b :: As).toArray) XC free := by
  obtain ⟨⟨hrc, hrs, hfr, hlo, hws, hcw⟩, hcode, hini, hy, hlen, hl, hin, hse⟩ := cw
  have hK : vx_Back l R p e below s args y 3 8 (PreOf R mc ms Pc) (PostOf Qc mc ms free) (vx_Post XC mc ms free) := vx_backW (hh := hh) (bytes := bytes) (maxL := maxL) (ret := ret) hM hp.1 hrc hrs hfr hlo hws hcw (fun a' U hW => word_at hW (Or.inl (by first | rfl | simp [Cond.onTables, Cond.keeps, Cond.steady])) hini)
  obtain ⟨hx, hb, hml, ho, -⟩ := S
  obtain ⟨-, ⟨cellB, hcB, hoB, hclB⟩, hPc⟩ := hp
  intro T hT X
  rcases vx_callVX X hx (C := C) (hh := hh) (bytes := bytes) (maxL := maxL) (ret := ret) ho hl hin hse hcode hy hK (by rw [hT]; exact hcB) hoB hclB hg (hsize.trans hml.symm) (argsL := As) (rest := rest) (fun sig h => hn.trans (hlen sig h)) hstack hW (by rw [hb]; exact hdg)
    (fun vm₁ hW₁ => ⟨hf.1, hf.2, hPc (T.setVm vm₁) hT hW₁⟩) with ⟨v, vm₁, ⟨U', l2, c2, s2⟩, hW₁, X', ⟨g', mk, t, L, e1, e2, hq, h1, hL, h2, h3⟩, st⟩ | ⟨q, vm₁, ⟨U', l2, c2, s2⟩, hW₁, X', ⟨g', mk, t, L, E, ce, e1, e2, hq, hce, hcv, hcl, h1, hL, h2, h3⟩, st⟩
  · dsimp only [Pt.U, Pt.locs, Pt.cells, Pt.slots] at X' e1 e2 h1 h2 h3 st
    subst h1; subst h2; subst h3
    exact Or.inl ⟨v, (T.setVm vm₁).calling g' mk (Value.ref b :: As).toArray, t, U', L, hT, X', hL, e1, e2, hq, st⟩
  · dsimp only [Pt.U, Pt.locs, Pt.cells, Pt.slots] at X' e1 e2 h1 h2 h3 st hcl
    subst h1; subst h2; subst h3
    exact Or.inr ⟨q, (T.setVm vm₁).calling g' mk (Value.ref b :: As).toArray, t, U', L, E, ce, hT, X', hL, e1, e2, hq, hce, hcv, vx_cls hW₁ hcl, st⟩
theorem vx_runSX {hh : List (Nat × Nat × Nat × Nat)} (S : CallFix p m c cc nL s args Ts own) (hM : vx_Met l y ws rm Pc Qc XC mc ms free) (cw : vx_CSW R s args own index y bytes maxL ret hh ws rm mc ms n) (hp : PreS s H Pc As)
    (hg : g.method = m) (hn : As.length = n) (hsize : g.locals.size = nL) (hstack : g.stack = As.reverse ++ rest) (hW : 2 * g.monitorRoom + (rest.map fun v => v.category).sum ≤ 8) (hdg : decode cc g.pc = .ok (.invokestatic index, 3)) (hf : cells + mc ≤ R.cells ∧ slots + ms ≤ R.slots) :
    vx_Run p l e R s m args below meth c H locs cells slots mc ms g rest (Qc As.toArray) XC free := by
  obtain ⟨⟨hrc, hrs, hfr, hlo, hws, hcw⟩, hcode, hini, hy, hlen, hl, hstt⟩ := cw
  have hK : vx_Back l R p e below s args y 3 8 (PreOf R mc ms Pc) (PostOf Qc mc ms free) (vx_Post XC mc ms free) := vx_backW (hh := hh) (bytes := bytes) (maxL := maxL) (ret := ret) hM hp.1 hrc hrs hfr hlo hws hcw (fun a' U hW => word_at hW (Or.inl (by first | rfl | simp [Cond.onTables, Cond.keeps, Cond.steady])) hini)
  obtain ⟨hx, hb, hml, ho, -⟩ := S
  intro T hT X
  rcases vx_callSX X hx (hh := hh) (bytes := bytes) (maxL := maxL) (ret := ret) ho hl hstt hini hcode hy hK hg (hsize.trans hml.symm) (argsL := As) (rest := rest) (fun sig h => hn.trans (hlen sig h)) hstack hW (by rw [hb]; exact hdg)
    (fun vm₁ hW₁ => ⟨hf.1, hf.2, hp.2 (T.setVm vm₁) hT hW₁⟩) with ⟨v, vm₁, ⟨U', l2, c2, s2⟩, hW₁, X', ⟨g', mk, t, L, e1, e2, hq, h1, hL, h2, h3⟩, st⟩ | ⟨q, vm₁, ⟨U', l2, c2, s2⟩, hW₁, X', ⟨g', mk, t, L, E, ce, e1, e2, hq, hce, hcv, hcl, h1, hL, h2, h3⟩, st⟩
  · dsimp only [Pt.U, Pt.locs, Pt.cells, Pt.slots] at X' e1 e2 h1 h2 h3 st
    subst h1; subst h2; subst h3
    exact Or.inl ⟨v, (T.setVm vm₁).calling g' mk As.toArray, t, U', L, hT, X', hL, e1, e2, hq, st⟩
  · dsimp only [Pt.U, Pt.locs, Pt.cells, Pt.slots] at X' e1 e2 h1 h2 h3 st hcl
    subst h1; subst h2; subst h3
    exact Or.inr ⟨q, (T.setVm vm₁).calling g' mk As.toArray, t, U', L, E, ce, hT, X', hL, e1, e2, hq, hce, hcv, vx_cls hW₁ hcl, st⟩
end
end VXH
theorem vx_ofWH {l : Launch} {y : MethodName} {ws ws' : List Cond} {rm : Room} {Pc : Array Value → State → Prop} {Qc : Array Value → State → Outcome → State → Prop} {XC : String → State → State → Prop} {mc ms : Nat} {free : Addr → Prop} {cc : ByteArray} {maxL : Nat} {ret : Option FieldType} {hh : List (Nat × Nat × Nat × Nat)}
    (hy : plainName y.cls = true) (hw : ws = Cond.codeWith y cc maxL ret hh :: ws')
    (body : ∀ p e s m args below meth c s₁, BodyLoose p l y (headSpec ws rm) cc maxL ret e s m args below meth c s₁ → c.maxLocals = maxL → Pc args s →
      W p l e (headSpec ws rm).room s m args below meth c s.heap [] 0 0 (vx_MQ below Qc XC args s mc ms free) (entryFrame m args maxL)) : vx_Met l y ws rm Pc Qc XC mc ms free := by
  refine MetFree.of_bodyS (code := cc) (maxLocals := maxL) (ret := ret) hy ?_ ?_
  · intro args s m h hn
    obtain ⟨m9, meth, c, hn9, h1, h2, h3, h4, -, h5, h6, -⟩ := Cond.codeWith_spec (atoms_spec (ws := ws) h _ (by rw [hw]; exact List.mem_cons_self))
    cases hn.symm.trans hn9
    exact ⟨meth, c, h1, h2, h3, h4, h5, h6⟩
  · intro p e s m args below meth c s₁ B hml hP _
    have hh0 : s₁.heap = s.heap := by rw [B.state]; rfl
    obtain ⟨t, a1, o, b1, b2, b3⟩ := body p e s m args below meth c s₁ B hml hP s₁ hh0 (Stand.of_body B)
    exact ⟨t, o, a1, b1, b2, b3⟩
/-! ===== END ===== -/
end
section
/-! ===== BEGIN printed: names, fields, word lists, decode rows ===== -/
def RX0 : String := "TrackFusion$Clock"
def TX0 : u_T := fun k => match k with
  | 0 => ("TrackFusion$Clock", "pairs", "I", false)
  | 1 => ("TrackFusion$Clock", "earlierTime", "I", false)
  | 2 => ("TrackFusion$Clock", "earlierTrue", "I", false)
  | 3 => ("TrackFusion$Clock", "laterTime", "I", false)
  | _ => ("TrackFusion$Clock", "laterTrue", "I", false)
def tyX0 : Nat → FieldType := fun k => match k with
  | 0 => .int
  | 1 => .int
  | 2 => .int
  | 3 => .int
  | _ => .int
abbrev wsX00 : List Cond := u_ws RX0 TX0 5
theorem nmX0 : ∀ a, a < 5 → ∀ b, b < 5 → a ≠ b → (TX0 a).2.1 ≠ (TX0 b).2.1 := by decide +kernel
theorem tyX0_ok : ∀ k, k < 5 → parseFieldDescriptor (TX0 k).2.2.1 = some (tyX0 k) := by decide +kernel
abbrev cX0_init : ByteArray := prog_2_method_1_code
def yX0_init : MethodName := ⟨RX0, "<init>", "()V"⟩
abbrev cX0_fits : ByteArray := prog_2_method_2_code
def yX0_fits : MethodName := ⟨RX0, "fits", "(II)Z"⟩
abbrev cX0_add : ByteArray := prog_2_method_3_code
def yX0_add : MethodName := ⟨RX0, "add", "(II)V"⟩
abbrev cX0_putRight : ByteArray := prog_2_method_4_code
def yX0_putRight : MethodName := ⟨RX0, "putRight", "(I)I"⟩
def RX1 : String := "TrackFusion$Matching"
def TX1 : u_T := fun k => match k with
  | 0 => ("TrackFusion$Matching", "reportCount", "I", false)
  | 1 => ("TrackFusion$Matching", "trackCount", "I", false)
  | 2 => ("TrackFusion$Matching", "liveTracks", "[LTrackFusion$Track;", true)
  | 3 => ("TrackFusion$Matching", "costs", "[[J", true)
  | 4 => ("TrackFusion$Matching", "costOfNone", "J", false)
  | 5 => ("TrackFusion$Matching", "choice", "[I", true)
  | 6 => ("TrackFusion$Matching", "bestChoice", "[I", true)
  | _ => ("TrackFusion$Matching", "leastCost", "J", false)
def tyX1 : Nat → FieldType := fun k => match k with
  | 0 => .int
  | 1 => .int
  | 2 => .array (.object "TrackFusion$Track")
  | 3 => .array (.array .long)
  | 4 => .long
  | 5 => .array .int
  | 6 => .array .int
  | _ => .long
abbrev wsX10 : List Cond := u_ws RX1 TX1 8
theorem nmX1 : ∀ a, a < 8 → ∀ b, b < 8 → a ≠ b → (TX1 a).2.1 ≠ (TX1 b).2.1 := by decide +kernel
theorem tyX1_ok : ∀ k, k < 8 → parseFieldDescriptor (TX1 k).2.2.1 = some (tyX1 k) := by decide +kernel
abbrev cX1_init : ByteArray := prog_3_method_1_code
def yX1_init : MethodName := ⟨RX1, "<init>", "()V"⟩
abbrev cX1_clear : ByteArray := prog_3_method_2_code
def yX1_clear : MethodName := ⟨RX1, "clear", "(J)V"⟩
abbrev cX1_addTrack : ByteArray := prog_3_method_3_code
def yX1_addTrack : MethodName := ⟨RX1, "addTrack", "(LTrackFusion$Track;)V"⟩
abbrev cX1_addReport : ByteArray := prog_3_method_4_code
def yX1_addReport : MethodName := ⟨RX1, "addReport", "()V"⟩
abbrev cX1_keepChoice : ByteArray := prog_3_method_5_code
def yX1_keepChoice : MethodName := ⟨RX1, "keepChoice", "(J)V"⟩
abbrev cX1_takerOf : ByteArray := prog_3_method_6_code
def yX1_takerOf : MethodName := ⟨RX1, "takerOf", "(I)LTrackFusion$Track;"⟩
abbrev cX1_hasReportFor : ByteArray := prog_3_method_7_code
def yX1_hasReportFor : MethodName := ⟨RX1, "hasReportFor", "(I)Z"⟩
def RX2 : String := "TrackFusion$Report"
def TX2 : u_T := fun k => match k with
  | 0 => ("TrackFusion$Report", "time", "I", false)
  | 1 => ("TrackFusion$Report", "x", "I", false)
  | _ => ("TrackFusion$Report", "y", "I", false)
def tyX2 : Nat → FieldType := fun k => match k with
  | 0 => .int
  | 1 => .int
  | _ => .int
abbrev wsX20 : List Cond := u_ws RX2 TX2 3
theorem nmX2 : ∀ a, a < 3 → ∀ b, b < 3 → a ≠ b → (TX2 a).2.1 ≠ (TX2 b).2.1 := by decide +kernel
theorem tyX2_ok : ∀ k, k < 3 → parseFieldDescriptor (TX2 k).2.2.1 = some (tyX2 k) := by decide +kernel
abbrev cX2_init : ByteArray := prog_4_method_1_code
def yX2_init : MethodName := ⟨RX2, "<init>", "()V"⟩
abbrev cX2_fill : ByteArray := prog_4_method_2_code
def yX2_fill : MethodName := ⟨RX2, "fill", "(III)V"⟩
def RX3 : String := "TrackFusion$Track"
def TX3 : u_T := fun k => match k with
  | 0 => ("TrackFusion$Track", "number", "I", true)
  | 1 => ("TrackFusion$Track", "time", "I", false)
  | 2 => ("TrackFusion$Track", "x", "I", false)
  | 3 => ("TrackFusion$Track", "y", "I", false)
  | 4 => ("TrackFusion$Track", "velocityX", "I", false)
  | 5 => ("TrackFusion$Track", "velocityY", "I", false)
  | 6 => ("TrackFusion$Track", "hitCount", "I", false)
  | 7 => ("TrackFusion$Track", "missCount", "I", false)
  | 8 => ("TrackFusion$Track", "isLive", "Z", false)
  | 9 => ("TrackFusion$Track", "merger", "I", false)
  | 10 => ("TrackFusion$Track", "signs", "[C", true)
  | _ => ("TrackFusion$Track", "signCount", "I", false)
def tyX3 : Nat → FieldType := fun k => match k with
  | 0 => .int
  | 1 => .int
  | 2 => .int
  | 3 => .int
  | 4 => .int
  | 5 => .int
  | 6 => .int
  | 7 => .int
  | 8 => .boolean
  | 9 => .int
  | 10 => .array .char
  | _ => .int
abbrev wsX30 : List Cond := u_ws RX3 TX3 12
theorem nmX3 : ∀ a, a < 12 → ∀ b, b < 12 → a ≠ b → (TX3 a).2.1 ≠ (TX3 b).2.1 := by decide +kernel
theorem tyX3_ok : ∀ k, k < 12 → parseFieldDescriptor (TX3 k).2.2.1 = some (tyX3 k) := by decide +kernel
abbrev cX3_init : ByteArray := prog_5_method_1_code
def yX3_init : MethodName := ⟨RX3, "<init>", "(ILTrackFusion$Report;)V"⟩
abbrev cX3_xAt : ByteArray := prog_5_method_2_code
def yX3_xAt : MethodName := ⟨RX3, "xAt", "(I)I"⟩
abbrev cX3_yAt : ByteArray := prog_5_method_3_code
def yX3_yAt : MethodName := ⟨RX3, "yAt", "(I)I"⟩
abbrev cX3_distanceTo : ByteArray := prog_5_method_4_code
def yX3_distanceTo : MethodName := ⟨RX3, "distanceTo", "(LTrackFusion$Report;)J"⟩
abbrev cX3_follow : ByteArray := prog_5_method_5_code
def yX3_follow : MethodName := ⟨RX3, "follow", "(LTrackFusion$Report;II)V"⟩
abbrev cX3_pushed : ByteArray := prog_5_method_6_code
def yX3_pushed : MethodName := ⟨RX3, "pushed", "(III)I"⟩
abbrev cX3_miss : ByteArray := prog_5_method_7_code
def yX3_miss : MethodName := ⟨RX3, "miss", "(I)V"⟩
abbrev cX3_absorb : ByteArray := prog_5_method_8_code
def yX3_absorb : MethodName := ⟨RX3, "absorb", "(LTrackFusion$Track;)V"⟩
abbrev cX3_mergeInto : ByteArray := prog_5_method_9_code
def yX3_mergeInto : MethodName := ⟨RX3, "mergeInto", "(LTrackFusion$Track;)V"⟩
abbrev cX3_note : ByteArray := prog_5_method_10_code
def yX3_note : MethodName := ⟨RX3, "note", "(C)V"⟩
abbrev cX3_countSince : ByteArray := prog_5_method_11_code
def yX3_countSince : MethodName := ⟨RX3, "countSince", "(IC)I"⟩
def RX4 : String := "TrackFusion"
def TX4 : u_T := fun k => match k with
  | 0 => ("TrackFusion", "clocks", "[LTrackFusion$Clock;", true)
  | 1 => ("TrackFusion", "reports", "[LTrackFusion$Report;", true)
  | 2 => ("TrackFusion", "reportCount", "I", false)
  | 3 => ("TrackFusion", "begunTracks", "[LTrackFusion$Track;", true)
  | 4 => ("TrackFusion", "begunCount", "I", false)
  | 5 => ("TrackFusion", "matching", "LTrackFusion$Matching;", true)
  | 6 => ("TrackFusion", "gate", "I", false)
  | 7 => ("TrackFusion", "gain", "I", false)
  | 8 => ("TrackFusion", "slope", "I", false)
  | 9 => ("TrackFusion", "limit", "I", false)
  | 10 => ("TrackFusion", "nearness", "I", false)
  | 11 => ("TrackFusion", "processedReports", "I", false)
  | _ => ("TrackFusion", "droppedReports", "I", false)
def tyX4 : Nat → FieldType := fun k => match k with
  | 0 => .array (.object "TrackFusion$Clock")
  | 1 => .array (.object "TrackFusion$Report")
  | 2 => .int
  | 3 => .array (.object "TrackFusion$Track")
  | 4 => .int
  | 5 => .object "TrackFusion$Matching"
  | 6 => .int
  | 7 => .int
  | 8 => .int
  | 9 => .int
  | 10 => .int
  | 11 => .int
  | _ => .int
abbrev wsX40 : List Cond := u_ws RX4 TX4 13
theorem nmX4 : ∀ a, a < 13 → ∀ b, b < 13 → a ≠ b → (TX4 a).2.1 ≠ (TX4 b).2.1 := by decide +kernel
theorem tyX4_ok : ∀ k, k < 13 → parseFieldDescriptor (TX4 k).2.2.1 = some (tyX4 k) := by decide +kernel
abbrev cX4_init : ByteArray := prog_1_method_1_code
def yX4_init : MethodName := ⟨RX4, "<init>", "()V"⟩
abbrev cX4_addPair : ByteArray := prog_1_method_2_code
def yX4_addPair : MethodName := ⟨RX4, "addPair", "(III)I"⟩
abbrev cX4_forgetPairs : ByteArray := prog_1_method_3_code
def yX4_forgetPairs : MethodName := ⟨RX4, "forgetPairs", "(I)I"⟩
abbrev cX4_correctedTime : ByteArray := prog_1_method_4_code
def yX4_correctedTime : MethodName := ⟨RX4, "correctedTime", "(II)I"⟩
abbrev cX4_clockOf : ByteArray := prog_1_method_5_code
def yX4_clockOf : MethodName := ⟨RX4, "clockOf", "(I)LTrackFusion$Clock;"⟩
abbrev cX4_setGate : ByteArray := prog_1_method_6_code
def yX4_setGate : MethodName := ⟨RX4, "setGate", "(I)I"⟩
abbrev cX4_setFilter : ByteArray := prog_1_method_7_code
def yX4_setFilter : MethodName := ⟨RX4, "setFilter", "(II)I"⟩
abbrev cX4_setLimit : ByteArray := prog_1_method_8_code
def yX4_setLimit : MethodName := ⟨RX4, "setLimit", "(I)I"⟩
abbrev cX4_setNearness : ByteArray := prog_1_method_9_code
def yX4_setNearness : MethodName := ⟨RX4, "setNearness", "(I)I"⟩
abbrev cX4_report : ByteArray := prog_1_method_10_code
def yX4_report : MethodName := ⟨RX4, "report", "(IIII)I"⟩
abbrev cX4_clearBatch : ByteArray := prog_1_method_11_code
def yX4_clearBatch : MethodName := ⟨RX4, "clearBatch", "()I"⟩
abbrev cX4_process : ByteArray := prog_1_method_12_code
def yX4_process : MethodName := ⟨RX4, "process", "()I"⟩
abbrev cX4_batch : ByteArray := prog_1_method_13_code
def yX4_batch : MethodName := ⟨RX4, "batch", "()I"⟩
abbrev cX4_distance : ByteArray := prog_1_method_14_code
def yX4_distance : MethodName := ⟨RX4, "distance", "(II)J"⟩
abbrev cX4_canTake : ByteArray := prog_1_method_15_code
def yX4_canTake : MethodName := ⟨RX4, "canTake", "(II)Z"⟩
abbrev cX4_bestCost : ByteArray := prog_1_method_16_code
def yX4_bestCost : MethodName := ⟨RX4, "bestCost", "()J"⟩
abbrev cX4_bestCostByTrying : ByteArray := prog_1_method_17_code
def yX4_bestCostByTrying : MethodName := ⟨RX4, "bestCostByTrying", "()J"⟩
abbrev cX4_goesTo : ByteArray := prog_1_method_18_code
def yX4_goesTo : MethodName := ⟨RX4, "goesTo", "(I)I"⟩
abbrev cX4_reportNumbered : ByteArray := prog_1_method_19_code
def yX4_reportNumbered : MethodName := ⟨RX4, "reportNumbered", "(I)LTrackFusion$Report;"⟩
abbrev cX4_costOfTaking : ByteArray := prog_1_method_20_code
def yX4_costOfTaking : MethodName := ⟨RX4, "costOfTaking", "(LTrackFusion$Report;LTrackFusion$Track;)J"⟩
abbrev cX4_findBestMatching : ByteArray := prog_1_method_21_code
def yX4_findBestMatching : MethodName := ⟨RX4, "findBestMatching", "()V"⟩
abbrev cX4_prepareMatching : ByteArray := prog_1_method_22_code
def yX4_prepareMatching : MethodName := ⟨RX4, "prepareMatching", "()V"⟩
abbrev cX4_extend : ByteArray := prog_1_method_23_code
def yX4_extend : MethodName := ⟨RX4, "extend", "(LTrackFusion$Matching;IIJ)V"⟩
abbrev cX4_leastCostFrom : ByteArray := prog_1_method_24_code
def yX4_leastCostFrom : MethodName := ⟨RX4, "leastCostFrom", "(LTrackFusion$Matching;II)J"⟩
abbrev cX4_changeTakers : ByteArray := prog_1_method_25_code
def yX4_changeTakers : MethodName := ⟨RX4, "changeTakers", "()I"⟩
abbrev cX4_missOthers : ByteArray := prog_1_method_26_code
def yX4_missOthers : MethodName := ⟨RX4, "missOthers", "()V"⟩
abbrev cX4_beginTracks : ByteArray := prog_1_method_27_code
def yX4_beginTracks : MethodName := ⟨RX4, "beginTracks", "()V"⟩
abbrev cX4_mergeTracks : ByteArray := prog_1_method_28_code
def yX4_mergeTracks : MethodName := ⟨RX4, "mergeTracks", "()V"⟩
abbrev cX4_mergeLaterOnesInto : ByteArray := prog_1_method_29_code
def yX4_mergeLaterOnesInto : MethodName := ⟨RX4, "mergeLaterOnesInto", "(LTrackFusion$Track;)V"⟩
abbrev cX4_areNear : ByteArray := prog_1_method_30_code
def yX4_areNear : MethodName := ⟨RX4, "areNear", "(LTrackFusion$Track;LTrackFusion$Track;)Z"⟩
abbrev cX4_tracks : ByteArray := prog_1_method_31_code
def yX4_tracks : MethodName := ⟨RX4, "tracks", "()I"⟩
abbrev cX4_liveTracks : ByteArray := prog_1_method_32_code
def yX4_liveTracks : MethodName := ⟨RX4, "liveTracks", "()I"⟩
abbrev cX4_status : ByteArray := prog_1_method_33_code
def yX4_status : MethodName := ⟨RX4, "status", "(I)C"⟩
abbrev cX4_timeOf : ByteArray := prog_1_method_34_code
def yX4_timeOf : MethodName := ⟨RX4, "timeOf", "(I)I"⟩
abbrev cX4_stateOf : ByteArray := prog_1_method_35_code
def yX4_stateOf : MethodName := ⟨RX4, "stateOf", "(II)I"⟩
abbrev cX4_predicted : ByteArray := prog_1_method_36_code
def yX4_predicted : MethodName := ⟨RX4, "predicted", "(IIZ)I"⟩
abbrev cX4_hits : ByteArray := prog_1_method_37_code
def yX4_hits : MethodName := ⟨RX4, "hits", "(I)I"⟩
abbrev cX4_misses : ByteArray := prog_1_method_38_code
def yX4_misses : MethodName := ⟨RX4, "misses", "(I)I"⟩
abbrev cX4_mergedInto : ByteArray := prog_1_method_39_code
def yX4_mergedInto : MethodName := ⟨RX4, "mergedInto", "(I)I"⟩
abbrev cX4_historyLength : ByteArray := prog_1_method_40_code
def yX4_historyLength : MethodName := ⟨RX4, "historyLength", "(I)I"⟩
abbrev cX4_historyAt : ByteArray := prog_1_method_41_code
def yX4_historyAt : MethodName := ⟨RX4, "historyAt", "(II)C"⟩
abbrev cX4_quality : ByteArray := prog_1_method_42_code
def yX4_quality : MethodName := ⟨RX4, "quality", "(I)I"⟩
abbrev cX4_countOf : ByteArray := prog_1_method_43_code
def yX4_countOf : MethodName := ⟨RX4, "countOf", "(C)I"⟩
abbrev cX4_nearest : ByteArray := prog_1_method_44_code
def yX4_nearest : MethodName := ⟨RX4, "nearest", "(III)I"⟩
abbrev cX4_trackNumbered : ByteArray := prog_1_method_45_code
def yX4_trackNumbered : MethodName := ⟨RX4, "trackNumbered", "(I)LTrackFusion$Track;"⟩
abbrev cX4_liveNumbered : ByteArray := prog_1_method_46_code
def yX4_liveNumbered : MethodName := ⟨RX4, "liveNumbered", "(I)LTrackFusion$Track;"⟩
abbrev cX4_countLive : ByteArray := prog_1_method_47_code
def yX4_countLive : MethodName := ⟨RX4, "countLive", "()I"⟩
abbrev cX4_countSigns : ByteArray := prog_1_method_48_code
def yX4_countSigns : MethodName := ⟨RX4, "countSigns", "(C)I"⟩
abbrev cX4_dropped : ByteArray := prog_1_method_49_code
def yX4_dropped : MethodName := ⟨RX4, "dropped", "()I"⟩
abbrev cX4_isBalanced : ByteArray := prog_1_method_50_code
def yX4_isBalanced : MethodName := ⟨RX4, "isBalanced", "()Z"⟩
abbrev cX4_takenShare : ByteArray := prog_1_method_51_code
def yX4_takenShare : MethodName := ⟨RX4, "takenShare", "()F"⟩
abbrev cX4_meanHits : ByteArray := prog_1_method_52_code
def yX4_meanHits : MethodName := ⟨RX4, "meanHits", "()D"⟩
abbrev cX4_refuseUnless : ByteArray := prog_1_method_53_code
def yX4_refuseUnless : MethodName := ⟨RX4, "refuseUnless", "(Z)V"⟩
abbrev cX4_isWithin : ByteArray := prog_1_method_54_code
def yX4_isWithin : MethodName := ⟨RX4, "isWithin", "(III)Z"⟩
abbrev cX4_isSensorTime : ByteArray := prog_1_method_55_code
def yX4_isSensorTime : MethodName := ⟨RX4, "isSensorTime", "(I)Z"⟩
abbrev cX4_isAskedTime : ByteArray := prog_1_method_56_code
def yX4_isAskedTime : MethodName := ⟨RX4, "isAskedTime", "(I)Z"⟩
abbrev cX4_isPlace : ByteArray := prog_1_method_57_code
def yX4_isPlace : MethodName := ⟨RX4, "isPlace", "(I)Z"⟩
abbrev cX4_squareSum : ByteArray := prog_1_method_58_code
def yX4_squareSum : MethodName := ⟨RX4, "squareSum", "(II)J"⟩
abbrev cX4_squareOfSixteenths : ByteArray := prog_1_method_59_code
def yX4_squareOfSixteenths : MethodName := ⟨RX4, "squareOfSixteenths", "(I)J"⟩
def RX5 : String := "TrackFusionModel"
def TX5 : u_T := fun k => match k with
  | 0 => ("TrackFusionModel", "pairs", "[I", true)
  | 1 => ("TrackFusionModel", "pairMany", "[I", true)
  | 2 => ("TrackFusionModel", "m", "[I", true)
  | 3 => ("TrackFusionModel", "many", "I", false)
  | 4 => ("TrackFusionModel", "histories", "[[C", true)
  | 5 => ("TrackFusionModel", "historyMany", "[I", true)
  | 6 => ("TrackFusionModel", "times", "[I", true)
  | 7 => ("TrackFusionModel", "xs", "[I", true)
  | 8 => ("TrackFusionModel", "ys", "[I", true)
  | 9 => ("TrackFusionModel", "reports", "I", false)
  | 10 => ("TrackFusionModel", "gate", "I", false)
  | 11 => ("TrackFusionModel", "gain", "I", false)
  | 12 => ("TrackFusionModel", "slope", "I", false)
  | 13 => ("TrackFusionModel", "limit", "I", false)
  | 14 => ("TrackFusionModel", "nearness", "I", false)
  | 15 => ("TrackFusionModel", "dropped", "I", false)
  | 16 => ("TrackFusionModel", "processed", "I", false)
  | 17 => ("TrackFusionModel", "tried", "[I", true)
  | 18 => ("TrackFusionModel", "best", "[I", true)
  | 19 => ("TrackFusionModel", "bestCost", "J", false)
  | 20 => ("TrackFusionModel", "thrown", "I", false)
  | _ => ("TrackFusionModel", "moved", "[I", true)
def tyX5 : Nat → FieldType := fun k => match k with
  | 0 => .array .int
  | 1 => .array .int
  | 2 => .array .int
  | 3 => .int
  | 4 => .array (.array .char)
  | 5 => .array .int
  | 6 => .array .int
  | 7 => .array .int
  | 8 => .array .int
  | 9 => .int
  | 10 => .int
  | 11 => .int
  | 12 => .int
  | 13 => .int
  | 14 => .int
  | 15 => .int
  | 16 => .int
  | 17 => .array .int
  | 18 => .array .int
  | 19 => .long
  | 20 => .int
  | _ => .array .int
abbrev wsX50 : List Cond := u_ws RX5 TX5 22
theorem nmX5 : ∀ a, a < 22 → ∀ b, b < 22 → a ≠ b → (TX5 a).2.1 ≠ (TX5 b).2.1 := by decide +kernel
theorem tyX5_ok : ∀ k, k < 22 → parseFieldDescriptor (TX5 k).2.2.1 = some (tyX5 k) := by decide +kernel
abbrev cX5_init : ByteArray := prog_7_method_1_code
def yX5_init : MethodName := ⟨RX5, "<init>", "()V"⟩
abbrev cX5_thrown : ByteArray := prog_7_method_2_code
def yX5_thrown : MethodName := ⟨RX5, "thrown", "()I"⟩
abbrev cX5_in : ByteArray := prog_7_method_3_code
def yX5_in : MethodName := ⟨RX5, "in", "(JJJ)Z"⟩
abbrev cX5_isSensor : ByteArray := prog_7_method_4_code
def yX5_isSensor : MethodName := ⟨RX5, "isSensor", "(I)Z"⟩
abbrev cX5_isTrack : ByteArray := prog_7_method_5_code
def yX5_isTrack : MethodName := ⟨RX5, "isTrack", "(I)Z"⟩
abbrev cX5_of : ByteArray := prog_7_method_6_code
def yX5_of : MethodName := ⟨RX5, "of", "(II)I"⟩
abbrev cX5_lays : ByteArray := prog_7_method_7_code
def yX5_lays : MethodName := ⟨RX5, "lays", "(III)V"⟩
abbrev cX5_isLive : ByteArray := prog_7_method_8_code
def yX5_isLive : MethodName := ⟨RX5, "isLive", "(I)Z"⟩
abbrev cX5_isTime : ByteArray := prog_7_method_9_code
def yX5_isTime : MethodName := ⟨RX5, "isTime", "(I)Z"⟩
abbrev cX5_addPair : ByteArray := prog_7_method_10_code
def yX5_addPair : MethodName := ⟨RX5, "addPair", "(III)I"⟩
abbrev cX5_forgetPairs : ByteArray := prog_7_method_11_code
def yX5_forgetPairs : MethodName := ⟨RX5, "forgetPairs", "(I)I"⟩
abbrev cX5_corrected : ByteArray := prog_7_method_12_code
def yX5_corrected : MethodName := ⟨RX5, "corrected", "(II)I"⟩
abbrev cX5_correctedTime : ByteArray := prog_7_method_13_code
def yX5_correctedTime : MethodName := ⟨RX5, "correctedTime", "(II)I"⟩
abbrev cX5_setGate : ByteArray := prog_7_method_14_code
def yX5_setGate : MethodName := ⟨RX5, "setGate", "(I)I"⟩
abbrev cX5_setFilter : ByteArray := prog_7_method_15_code
def yX5_setFilter : MethodName := ⟨RX5, "setFilter", "(II)I"⟩
abbrev cX5_setLimit : ByteArray := prog_7_method_16_code
def yX5_setLimit : MethodName := ⟨RX5, "setLimit", "(I)I"⟩
abbrev cX5_setNearness : ByteArray := prog_7_method_17_code
def yX5_setNearness : MethodName := ⟨RX5, "setNearness", "(I)I"⟩
abbrev cX5_isPlace : ByteArray := prog_7_method_18_code
def yX5_isPlace : MethodName := ⟨RX5, "isPlace", "(II)Z"⟩
abbrev cX5_report : ByteArray := prog_7_method_19_code
def yX5_report : MethodName := ⟨RX5, "report", "(IIII)I"⟩
abbrev cX5_clearBatch : ByteArray := prog_7_method_20_code
def yX5_clearBatch : MethodName := ⟨RX5, "clearBatch", "()I"⟩
abbrev cX5_ahead : ByteArray := prog_7_method_21_code
def yX5_ahead : MethodName := ⟨RX5, "ahead", "(III)J"⟩
abbrev cX5_residual : ByteArray := prog_7_method_22_code
def yX5_residual : MethodName := ⟨RX5, "residual", "(III)J"⟩
abbrev cX5_distanceOf : ByteArray := prog_7_method_23_code
def yX5_distanceOf : MethodName := ⟨RX5, "distanceOf", "(II)J"⟩
abbrev cX5_gateSquare : ByteArray := prog_7_method_24_code
def yX5_gateSquare : MethodName := ⟨RX5, "gateSquare", "()J"⟩
abbrev cX5_takes : ByteArray := prog_7_method_25_code
def yX5_takes : MethodName := ⟨RX5, "takes", "(II)Z"⟩
abbrev cX5_tries : ByteArray := prog_7_method_26_code
def yX5_tries : MethodName := ⟨RX5, "tries", "(IJ)V"⟩
abbrev cX5_looks : ByteArray := prog_7_method_27_code
def yX5_looks : MethodName := ⟨RX5, "looks", "()V"⟩
abbrev cX5_notes : ByteArray := prog_7_method_28_code
def yX5_notes : MethodName := ⟨RX5, "notes", "(IC)V"⟩
abbrev cX5_changes : ByteArray := prog_7_method_29_code
def yX5_changes : MethodName := ⟨RX5, "changes", "(II)V"⟩
abbrev cX5_live : ByteArray := prog_7_method_30_code
def yX5_live : MethodName := ⟨RX5, "live", "()I"⟩
abbrev cX5_begins : ByteArray := prog_7_method_31_code
def yX5_begins : MethodName := ⟨RX5, "begins", "(I)V"⟩
abbrev cX5_areNear : ByteArray := prog_7_method_32_code
def yX5_areNear : MethodName := ⟨RX5, "areNear", "(II)Z"⟩
abbrev cX5_goesThere : ByteArray := prog_7_method_33_code
def yX5_goesThere : MethodName := ⟨RX5, "goesThere", "(I)Z"⟩
abbrev cX5_process : ByteArray := prog_7_method_34_code
def yX5_process : MethodName := ⟨RX5, "process", "()I"⟩
abbrev cX5_batch : ByteArray := prog_7_method_35_code
def yX5_batch : MethodName := ⟨RX5, "batch", "()I"⟩
abbrev cX5_isAsked : ByteArray := prog_7_method_36_code
def yX5_isAsked : MethodName := ⟨RX5, "isAsked", "(II)Z"⟩
abbrev cX5_distance : ByteArray := prog_7_method_37_code
def yX5_distance : MethodName := ⟨RX5, "distance", "(II)J"⟩
abbrev cX5_canTake : ByteArray := prog_7_method_38_code
def yX5_canTake : MethodName := ⟨RX5, "canTake", "(II)Z"⟩
abbrev cX5_bestCost : ByteArray := prog_7_method_39_code
def yX5_bestCost : MethodName := ⟨RX5, "bestCost", "()J"⟩
abbrev cX5_bestCostByTrying : ByteArray := prog_7_method_40_code
def yX5_bestCostByTrying : MethodName := ⟨RX5, "bestCostByTrying", "()J"⟩
abbrev cX5_goesTo : ByteArray := prog_7_method_41_code
def yX5_goesTo : MethodName := ⟨RX5, "goesTo", "(I)I"⟩
abbrev cX5_tracks : ByteArray := prog_7_method_42_code
def yX5_tracks : MethodName := ⟨RX5, "tracks", "()I"⟩
abbrev cX5_liveTracks : ByteArray := prog_7_method_43_code
def yX5_liveTracks : MethodName := ⟨RX5, "liveTracks", "()I"⟩
abbrev cX5_isThere : ByteArray := prog_7_method_44_code
def yX5_isThere : MethodName := ⟨RX5, "isThere", "(I)Z"⟩
abbrev cX5_status : ByteArray := prog_7_method_45_code
def yX5_status : MethodName := ⟨RX5, "status", "(I)C"⟩
abbrev cX5_timeOf : ByteArray := prog_7_method_46_code
def yX5_timeOf : MethodName := ⟨RX5, "timeOf", "(I)I"⟩
abbrev cX5_stateOf : ByteArray := prog_7_method_47_code
def yX5_stateOf : MethodName := ⟨RX5, "stateOf", "(II)I"⟩
abbrev cX5_isAhead : ByteArray := prog_7_method_48_code
def yX5_isAhead : MethodName := ⟨RX5, "isAhead", "(I)Z"⟩
abbrev cX5_predicted : ByteArray := prog_7_method_49_code
def yX5_predicted : MethodName := ⟨RX5, "predicted", "(IIZ)I"⟩
abbrev cX5_hits : ByteArray := prog_7_method_50_code
def yX5_hits : MethodName := ⟨RX5, "hits", "(I)I"⟩
abbrev cX5_misses : ByteArray := prog_7_method_51_code
def yX5_misses : MethodName := ⟨RX5, "misses", "(I)I"⟩
abbrev cX5_mergedInto : ByteArray := prog_7_method_52_code
def yX5_mergedInto : MethodName := ⟨RX5, "mergedInto", "(I)I"⟩
abbrev cX5_historyLength : ByteArray := prog_7_method_53_code
def yX5_historyLength : MethodName := ⟨RX5, "historyLength", "(I)I"⟩
abbrev cX5_historyAt : ByteArray := prog_7_method_54_code
def yX5_historyAt : MethodName := ⟨RX5, "historyAt", "(II)C"⟩
abbrev cX5_quality : ByteArray := prog_7_method_55_code
def yX5_quality : MethodName := ⟨RX5, "quality", "(I)I"⟩
abbrev cX5_count : ByteArray := prog_7_method_56_code
def yX5_count : MethodName := ⟨RX5, "count", "(C)I"⟩
abbrev cX5_countOf : ByteArray := prog_7_method_57_code
def yX5_countOf : MethodName := ⟨RX5, "countOf", "(C)I"⟩
abbrev cX5_farness : ByteArray := prog_7_method_58_code
def yX5_farness : MethodName := ⟨RX5, "farness", "(IIII)J"⟩
abbrev cX5_nearest : ByteArray := prog_7_method_59_code
def yX5_nearest : MethodName := ⟨RX5, "nearest", "(III)I"⟩
abbrev cX5_dropped : ByteArray := prog_7_method_60_code
def yX5_dropped : MethodName := ⟨RX5, "dropped", "()I"⟩
abbrev cX5_isBalanced : ByteArray := prog_7_method_61_code
def yX5_isBalanced : MethodName := ⟨RX5, "isBalanced", "()Z"⟩
abbrev cX5_takenShare : ByteArray := prog_7_method_62_code
def yX5_takenShare : MethodName := ⟨RX5, "takenShare", "()F"⟩
abbrev cX5_meanHits : ByteArray := prog_7_method_63_code
def yX5_meanHits : MethodName := ⟨RX5, "meanHits", "()D"⟩
def RJx145de : String := "java/io/Serializable"
def TJx145de : u_T := fun k => match k with
  | _ => ("", "", "", false)
def tyJx145de : Nat → FieldType := fun k => match k with
  | _ => .int
abbrev wsJx145de0 : List Cond := u_ws RJx145de TJx145de 0
theorem nmJx145de : ∀ a, a < 0 → ∀ b, b < 0 → a ≠ b → (TJx145de a).2.1 ≠ (TJx145de b).2.1 := by decide +kernel
theorem tyJx145de_ok : ∀ k, k < 0 → parseFieldDescriptor (TJx145de k).2.2.1 = some (tyJx145de k) := by decide +kernel
def RJx00060 : String := "java/lang/ArrayIndexOutOfBoundsException"
def TJx00060 : u_T := fun k => match k with
  | 0 => ("java/lang/Throwable", "backtrace", "Ljava/lang/Object;", false)
  | 1 => ("java/lang/Throwable", "detailMessage", "Ljava/lang/String;", false)
  | 2 => ("java/lang/Throwable", "cause", "Ljava/lang/Throwable;", false)
  | 3 => ("java/lang/Throwable", "stackTrace", "[Ljava/lang/StackTraceElement;", false)
  | 4 => ("java/lang/Throwable", "depth", "I", false)
  | _ => ("java/lang/Throwable", "suppressedExceptions", "Ljava/util/List;", false)
def tyJx00060 : Nat → FieldType := fun k => match k with
  | 0 => .object "java/lang/Object"
  | 1 => .object "java/lang/String"
  | 2 => .object "java/lang/Throwable"
  | 3 => .array (.object "java/lang/StackTraceElement")
  | 4 => .int
  | _ => .object "java/util/List"
abbrev wsJx000600 : List Cond := u_ws RJx00060 TJx00060 6
theorem nmJx00060 : ∀ a, a < 6 → ∀ b, b < 6 → a ≠ b → (TJx00060 a).2.1 ≠ (TJx00060 b).2.1 := by decide +kernel
theorem tyJx00060_ok : ∀ k, k < 6 → parseFieldDescriptor (TJx00060 k).2.2.1 = some (tyJx00060 k) := by decide +kernel
abbrev cJx00060_init_a7421 : ByteArray := prog_10_method_2_code
def yJx00060_init_a7421 : MethodName := ⟨RJx00060, "<init>", "(Ljava/lang/String;)V"⟩
def RJx9f9b0 : String := "java/lang/CharSequence"
def TJx9f9b0 : u_T := fun k => match k with
  | _ => ("", "", "", false)
def tyJx9f9b0 : Nat → FieldType := fun k => match k with
  | _ => .int
abbrev wsJx9f9b00 : List Cond := u_ws RJx9f9b0 TJx9f9b0 0
theorem nmJx9f9b0 : ∀ a, a < 0 → ∀ b, b < 0 → a ≠ b → (TJx9f9b0 a).2.1 ≠ (TJx9f9b0 b).2.1 := by decide +kernel
theorem tyJx9f9b0_ok : ∀ k, k < 0 → parseFieldDescriptor (TJx9f9b0 k).2.2.1 = some (tyJx9f9b0 k) := by decide +kernel
def RJ11 : String := "java/lang/Character"
def TJ11 : u_T := fun k => match k with
  | _ => ("", "", "", false)
def tyJ11 : Nat → FieldType := fun k => match k with
  | _ => .int
abbrev wsJ110 : List Cond := u_ws RJ11 TJ11 0
theorem nmJ11 : ∀ a, a < 0 → ∀ b, b < 0 → a ≠ b → (TJ11 a).2.1 ≠ (TJ11 b).2.1 := by decide +kernel
theorem tyJ11_ok : ∀ k, k < 0 → parseFieldDescriptor (TJ11 k).2.2.1 = some (tyJ11 k) := by decide +kernel
abbrev cJ11_isValidCodePoint_9a6ad : ByteArray := prog_12_method_11_code
def yJ11_isValidCodePoint_9a6ad : MethodName := ⟨RJ11, "isValidCodePoint", "(I)Z"⟩
abbrev cJ11_highSurrogate_5068e : ByteArray := prog_12_method_28_code
def yJ11_highSurrogate_5068e : MethodName := ⟨RJ11, "highSurrogate", "(I)C"⟩
abbrev cJ11_lowSurrogate_5068e : ByteArray := prog_12_method_29_code
def yJ11_lowSurrogate_5068e : MethodName := ⟨RJ11, "lowSurrogate", "(I)C"⟩
def RJxb160c : String := "java/lang/Comparable"
def TJxb160c : u_T := fun k => match k with
  | _ => ("", "", "", false)
def tyJxb160c : Nat → FieldType := fun k => match k with
  | _ => .int
abbrev wsJxb160c0 : List Cond := u_ws RJxb160c TJxb160c 0
theorem nmJxb160c : ∀ a, a < 0 → ∀ b, b < 0 → a ≠ b → (TJxb160c a).2.1 ≠ (TJxb160c b).2.1 := by decide +kernel
theorem tyJxb160c_ok : ∀ k, k < 0 → parseFieldDescriptor (TJxb160c k).2.2.1 = some (tyJxb160c k) := by decide +kernel
def RJ9 : String := "java/lang/Math"
def TJ9 : u_T := fun k => match k with
  | _ => ("", "", "", false)
def tyJ9 : Nat → FieldType := fun k => match k with
  | _ => .int
abbrev wsJ90 : List Cond := u_ws RJ9 TJ9 0
theorem nmJ9 : ∀ a, a < 0 → ∀ b, b < 0 → a ≠ b → (TJ9 a).2.1 ≠ (TJ9 b).2.1 := by decide +kernel
theorem tyJ9_ok : ∀ k, k < 0 → parseFieldDescriptor (TJ9 k).2.2.1 = some (tyJ9 k) := by decide +kernel
abbrev cJ9_floorDiv_7cf53 : ByteArray := prog_18_method_47_code
def yJ9_floorDiv_7cf53 : MethodName := ⟨RJ9, "floorDiv", "(II)I"⟩
abbrev cJ9_floorDiv_f86c9 : ByteArray := prog_18_method_49_code
def yJ9_floorDiv_f86c9 : MethodName := ⟨RJ9, "floorDiv", "(JJ)J"⟩
abbrev cJ9_abs_0f7a4 : ByteArray := prog_18_method_59_code
def yJ9_abs_0f7a4 : MethodName := ⟨RJ9, "abs", "(I)I"⟩
abbrev cJ9_max_7cf53 : ByteArray := prog_18_method_65_code
def yJ9_max_7cf53 : MethodName := ⟨RJ9, "max", "(II)I"⟩
abbrev cJ9_max_f86c9 : ByteArray := prog_18_method_66_code
def yJ9_max_f86c9 : MethodName := ⟨RJ9, "max", "(JJ)J"⟩
abbrev cJ9_min_7cf53 : ByteArray := prog_18_method_69_code
def yJ9_min_7cf53 : MethodName := ⟨RJ9, "min", "(II)I"⟩
abbrev cJ9_min_f86c9 : ByteArray := prog_18_method_70_code
def yJ9_min_f86c9 : MethodName := ⟨RJ9, "min", "(JJ)J"⟩
def RJ0 : String := "java/lang/String"
def TJ0 : u_T := fun k => match k with
  | 0 => ("java/lang/String", "value", "[B", true)
  | _ => ("java/lang/String", "coder", "B", true)
def tyJ0 : Nat → FieldType := fun k => match k with
  | 0 => .array .byte
  | _ => .byte
abbrev wsJ00 : List Cond := u_ws RJ0 TJ0 2
theorem nmJ0 : ∀ a, a < 2 → ∀ b, b < 2 → a ≠ b → (TJ0 a).2.1 ≠ (TJ0 b).2.1 := by decide +kernel
theorem tyJ0_ok : ∀ k, k < 2 → parseFieldDescriptor (TJ0 k).2.2.1 = some (tyJ0 k) := by decide +kernel
abbrev cJ0_length_8abf5 : ByteArray := prog_20_method_54_code
def yJ0_length_8abf5 : MethodName := ⟨RJ0, "length", "()I"⟩
abbrev cJ0_indexOf_0f7a4 : ByteArray := prog_20_method_79_code
def yJ0_indexOf_0f7a4 : MethodName := ⟨RJ0, "indexOf", "(I)I"⟩
abbrev cJ0_indexOf_7cf53 : ByteArray := prog_20_method_80_code
def yJ0_indexOf_7cf53 : MethodName := ⟨RJ0, "indexOf", "(II)I"⟩
abbrev cJ0_coder_7d493 : ByteArray := prog_20_method_152_code
def yJ0_coder_7d493 : MethodName := ⟨RJ0, "coder", "()B"⟩
abbrev cJ0_isLatin1_aae02 : ByteArray := prog_20_method_154_code
def yJ0_isLatin1_aae02 : MethodName := ⟨RJ0, "isLatin1", "()Z"⟩
abbrev cJ0_checkBoundsBeginEnd_23922 : ByteArray := prog_20_method_158_code
def yJ0_checkBoundsBeginEnd_23922 : MethodName := ⟨RJ0, "checkBoundsBeginEnd", "(III)V"⟩
def RJ1 : String := "java/lang/StringLatin1"
def TJ1 : u_T := fun k => match k with
  | _ => ("", "", "", false)
def tyJ1 : Nat → FieldType := fun k => match k with
  | _ => .int
abbrev wsJ10 : List Cond := u_ws RJ1 TJ1 0
theorem nmJ1 : ∀ a, a < 0 → ∀ b, b < 0 → a ≠ b → (TJ1 a).2.1 ≠ (TJ1 b).2.1 := by decide +kernel
theorem tyJ1_ok : ∀ k, k < 0 → parseFieldDescriptor (TJ1 k).2.2.1 = some (tyJ1 k) := by decide +kernel
abbrev cJ1_canEncode_9a6ad : ByteArray := prog_21_method_4_code
def yJ1_canEncode_9a6ad : MethodName := ⟨RJ1, "canEncode", "(I)Z"⟩
abbrev cJ1_indexOf_4cfef : ByteArray := prog_21_method_22_code
def yJ1_indexOf_4cfef : MethodName := ⟨RJ1, "indexOf", "([BIII)I"⟩
abbrev cJ1_indexOfChar_4cfef : ByteArray := prog_21_method_23_code
def yJ1_indexOfChar_4cfef : MethodName := ⟨RJ1, "indexOfChar", "([BIII)I"⟩
def RJ2 : String := "java/lang/StringUTF16"
def TJ2 : u_T := fun k => match k with
  | _ => ("", "", "", false)
def tyJ2 : Nat → FieldType := fun k => match k with
  | _ => .int
abbrev wsJ20 : List Cond := u_ws RJ2 TJ2 0
theorem nmJ2 : ∀ a, a < 0 → ∀ b, b < 0 → a ≠ b → (TJ2 a).2.1 ≠ (TJ2 b).2.1 := by decide +kernel
theorem tyJ2_ok : ∀ k, k < 0 → parseFieldDescriptor (TJ2 k).2.2.1 = some (tyJ2 k) := by decide +kernel
abbrev cJ2_getChar_3b067 : ByteArray := prog_22_method_5_code
def yJ2_getChar_3b067 : MethodName := ⟨RJ2, "getChar", "([BI)C"⟩
abbrev cJ2_length_9d52b : ByteArray := prog_22_method_6_code
def yJ2_length_9d52b : MethodName := ⟨RJ2, "length", "([B)I"⟩
abbrev cJ2_indexOf_4cfef : ByteArray := prog_22_method_40_code
def yJ2_indexOf_4cfef : MethodName := ⟨RJ2, "indexOf", "([BIII)I"⟩
abbrev cJ2_indexOfChar_4cfef : ByteArray := prog_22_method_47_code
def yJ2_indexOfChar_4cfef : MethodName := ⟨RJ2, "indexOfChar", "([BIII)I"⟩
abbrev cJ2_indexOfCharUnsafe_4cfef : ByteArray := prog_22_method_48_code
def yJ2_indexOfCharUnsafe_4cfef : MethodName := ⟨RJ2, "indexOfCharUnsafe", "([BIII)I"⟩
abbrev cJ2_indexOfSupplementary_4cfef : ByteArray := prog_22_method_49_code
def yJ2_indexOfSupplementary_4cfef : MethodName := ⟨RJ2, "indexOfSupplementary", "([BIII)I"⟩
abbrev cJ2_checkBoundsBeginEnd_d044e : ByteArray := prog_22_method_93_code
def yJ2_checkBoundsBeginEnd_d044e : MethodName := ⟨RJ2, "checkBoundsBeginEnd", "(II[B)V"⟩
def RJ10 : String := "java/lang/System"
def TJ10 : u_T := fun k => match k with
  | _ => ("", "", "", false)
def tyJ10 : Nat → FieldType := fun k => match k with
  | _ => .int
abbrev wsJ100 : List Cond := u_ws RJ10 TJ10 0
theorem nmJ10 : ∀ a, a < 0 → ∀ b, b < 0 → a ≠ b → (TJ10 a).2.1 ≠ (TJ10 b).2.1 := by decide +kernel
theorem tyJ10_ok : ∀ k, k < 0 → parseFieldDescriptor (TJ10 k).2.2.1 = some (tyJ10 k) := by decide +kernel
def RJxfd54e : String := "java/lang/constant/Constable"
def TJxfd54e : u_T := fun k => match k with
  | _ => ("", "", "", false)
def tyJxfd54e : Nat → FieldType := fun k => match k with
  | _ => .int
abbrev wsJxfd54e0 : List Cond := u_ws RJxfd54e TJxfd54e 0
theorem nmJxfd54e : ∀ a, a < 0 → ∀ b, b < 0 → a ≠ b → (TJxfd54e a).2.1 ≠ (TJxfd54e b).2.1 := by decide +kernel
theorem tyJxfd54e_ok : ∀ k, k < 0 → parseFieldDescriptor (TJxfd54e k).2.2.1 = some (tyJxfd54e k) := by decide +kernel
def RJx3cf43 : String := "java/lang/constant/ConstantDesc"
def TJx3cf43 : u_T := fun k => match k with
  | _ => ("", "", "", false)
def tyJx3cf43 : Nat → FieldType := fun k => match k with
  | _ => .int
abbrev wsJx3cf430 : List Cond := u_ws RJx3cf43 TJx3cf43 0
theorem nmJx3cf43 : ∀ a, a < 0 → ∀ b, b < 0 → a ≠ b → (TJx3cf43 a).2.1 ≠ (TJx3cf43 b).2.1 := by decide +kernel
theorem tyJx3cf43_ok : ∀ k, k < 0 → parseFieldDescriptor (TJx3cf43 k).2.2.1 = some (tyJx3cf43 k) := by decide +kernel
def RJ3 : String := "jdk/internal/util/Preconditions"
def TJ3 : u_T := fun k => match k with
  | _ => ("", "", "", false)
def tyJ3 : Nat → FieldType := fun k => match k with
  | _ => .int
abbrev wsJ30 : List Cond := u_ws RJ3 TJ3 0
theorem nmJ3 : ∀ a, a < 0 → ∀ b, b < 0 → a ≠ b → (TJ3 a).2.1 ≠ (TJ3 b).2.1 := by decide +kernel
theorem tyJ3_ok : ∀ k, k < 0 → parseFieldDescriptor (TJ3 k).2.2.1 = some (tyJ3 k) := by decide +kernel
abbrev cJ3_checkFromToIndex_8c36e : ByteArray := prog_28_method_12_code
def yJ3_checkFromToIndex_8c36e : MethodName := ⟨RJ3, "checkFromToIndex", "(IIILjava/util/function/BiFunction;)I"⟩
def RL : String := "TrackFusionLaw"
abbrev cL_addPair : ByteArray := method_3_code
def yL_addPair : MethodName := ⟨RL, "addPair", "(LTrackFusion;III[J)I"⟩
abbrev cL_forgetPairs : ByteArray := method_4_code
def yL_forgetPairs : MethodName := ⟨RL, "forgetPairs", "(LTrackFusion;I[J)I"⟩
abbrev cL_correctedTime : ByteArray := method_5_code
def yL_correctedTime : MethodName := ⟨RL, "correctedTime", "(LTrackFusion;II[J)I"⟩
abbrev cL_setGate : ByteArray := method_6_code
def yL_setGate : MethodName := ⟨RL, "setGate", "(LTrackFusion;I[J)I"⟩
abbrev cL_setFilter : ByteArray := method_7_code
def yL_setFilter : MethodName := ⟨RL, "setFilter", "(LTrackFusion;II[J)I"⟩
abbrev cL_setLimit : ByteArray := method_8_code
def yL_setLimit : MethodName := ⟨RL, "setLimit", "(LTrackFusion;I[J)I"⟩
abbrev cL_setNearness : ByteArray := method_9_code
def yL_setNearness : MethodName := ⟨RL, "setNearness", "(LTrackFusion;I[J)I"⟩
abbrev cL_report : ByteArray := method_10_code
def yL_report : MethodName := ⟨RL, "report", "(LTrackFusion;IIII[J)I"⟩
abbrev cL_process : ByteArray := method_11_code
def yL_process : MethodName := ⟨RL, "process", "(LTrackFusion;[J)I"⟩
abbrev cL_distance : ByteArray := method_12_code
def yL_distance : MethodName := ⟨RL, "distance", "(LTrackFusion;II[J)I"⟩
abbrev cL_canTake : ByteArray := method_13_code
def yL_canTake : MethodName := ⟨RL, "canTake", "(LTrackFusion;II[J)I"⟩
abbrev cL_goesTo : ByteArray := method_14_code
def yL_goesTo : MethodName := ⟨RL, "goesTo", "(LTrackFusion;I[J)I"⟩
abbrev cL_status : ByteArray := method_15_code
def yL_status : MethodName := ⟨RL, "status", "(LTrackFusion;I[J)I"⟩
abbrev cL_timeOf : ByteArray := method_16_code
def yL_timeOf : MethodName := ⟨RL, "timeOf", "(LTrackFusion;I[J)I"⟩
abbrev cL_stateOf : ByteArray := method_17_code
def yL_stateOf : MethodName := ⟨RL, "stateOf", "(LTrackFusion;II[J)I"⟩
abbrev cL_predicted : ByteArray := method_18_code
def yL_predicted : MethodName := ⟨RL, "predicted", "(LTrackFusion;IIZ[J)I"⟩
abbrev cL_hits : ByteArray := method_19_code
def yL_hits : MethodName := ⟨RL, "hits", "(LTrackFusion;I[J)I"⟩
abbrev cL_misses : ByteArray := method_20_code
def yL_misses : MethodName := ⟨RL, "misses", "(LTrackFusion;I[J)I"⟩
abbrev cL_mergedInto : ByteArray := method_21_code
def yL_mergedInto : MethodName := ⟨RL, "mergedInto", "(LTrackFusion;I[J)I"⟩
abbrev cL_historyLength : ByteArray := method_22_code
def yL_historyLength : MethodName := ⟨RL, "historyLength", "(LTrackFusion;I[J)I"⟩
abbrev cL_historyAt : ByteArray := method_23_code
def yL_historyAt : MethodName := ⟨RL, "historyAt", "(LTrackFusion;II[J)I"⟩
abbrev cL_quality : ByteArray := method_24_code
def yL_quality : MethodName := ⟨RL, "quality", "(LTrackFusion;I[J)I"⟩
abbrev cL_countOf : ByteArray := method_25_code
def yL_countOf : MethodName := ⟨RL, "countOf", "(LTrackFusion;C[J)I"⟩
abbrev cL_nearest : ByteArray := method_26_code
def yL_nearest : MethodName := ⟨RL, "nearest", "(LTrackFusion;III[J)I"⟩
abbrev cL_takenShare : ByteArray := method_27_code
def yL_takenShare : MethodName := ⟨RL, "takenShare", "(LTrackFusion;[D)I"⟩
abbrev cL_meanHits : ByteArray := method_28_code
def yL_meanHits : MethodName := ⟨RL, "meanHits", "(LTrackFusion;[D)I"⟩
abbrev cL_law : ByteArray := code
def yL_law : MethodName := ⟨RL, "law", "([I)Z"⟩
abbrev vwCl : List vw_C := [(RJ0, TJ0, 2), (RJx00060, TJx00060, 6), (RX0, TX0, 5), (RX1, TX1, 8), (RX2, TX2, 3), (RX3, TX3, 12), (RX4, TX4, 13), (RX5, TX5, 22)]
end
section
theorem dX0_init_0 : decode cX0_init 0 = .ok (.aload_n 0, 1) := by decide +kernel
theorem dX0_init_1 : decode cX0_init 1 = .ok (.invokespecial 1, 3) := by decide +kernel
theorem dX0_init_4 : decode cX0_init 4 = .ok (.return_, 1) := by decide +kernel
theorem dX0_fits_0 : decode cX0_fits 0 = .ok (.aload_n 0, 1) := by decide +kernel
theorem dX0_fits_1 : decode cX0_fits 1 = .ok (.getfield 7, 3) := by decide +kernel
theorem dX0_fits_4 : decode cX0_fits 4 = .ok (.ifCond .ne 5, 3) := by decide +kernel
theorem dX0_fits_7 : decode cX0_fits 7 = .ok (.iconst 1, 1) := by decide +kernel
theorem dX0_fits_8 : decode cX0_fits 8 = .ok (.ireturn, 1) := by decide +kernel
theorem dX0_fits_9 : decode cX0_fits 9 = .ok (.iload_n 1, 1) := by decide +kernel
theorem dX0_fits_10 : decode cX0_fits 10 = .ok (.aload_n 0, 1) := by decide +kernel
theorem dX0_fits_11 : decode cX0_fits 11 = .ok (.getfield 13, 3) := by decide +kernel
theorem dX0_fits_14 : decode cX0_fits 14 = .ok (.isub, 1) := by decide +kernel
theorem dX0_fits_15 : decode cX0_fits 15 = .ok (.istore_n 3, 1) := by decide +kernel
theorem dX0_fits_16 : decode cX0_fits 16 = .ok (.iload_n 2, 1) := by decide +kernel
theorem dX0_fits_17 : decode cX0_fits 17 = .ok (.aload_n 0, 1) := by decide +kernel
theorem dX0_fits_18 : decode cX0_fits 18 = .ok (.getfield 16, 3) := by decide +kernel
theorem dX0_fits_21 : decode cX0_fits 21 = .ok (.isub, 1) := by decide +kernel
theorem dX0_fits_22 : decode cX0_fits 22 = .ok (.istore 4, 2) := by decide +kernel
theorem dX0_fits_24 : decode cX0_fits 24 = .ok (.iload_n 3, 1) := by decide +kernel
theorem dX0_fits_25 : decode cX0_fits 25 = .ok (.ifCond .le 23, 3) := by decide +kernel
theorem dX0_fits_28 : decode cX0_fits 28 = .ok (.iconst 2, 1) := by decide +kernel
theorem dX0_fits_29 : decode cX0_fits 29 = .ok (.iload 4, 2) := by decide +kernel
theorem dX0_fits_31 : decode cX0_fits 31 = .ok (.imul, 1) := by decide +kernel
theorem dX0_fits_32 : decode cX0_fits 32 = .ok (.iload_n 3, 1) := by decide +kernel
theorem dX0_fits_33 : decode cX0_fits 33 = .ok (.if_icmp .lt 15, 3) := by decide +kernel
theorem dX0_fits_36 : decode cX0_fits 36 = .ok (.iload 4, 2) := by decide +kernel
theorem dX0_fits_38 : decode cX0_fits 38 = .ok (.iconst 2, 1) := by decide +kernel
theorem dX0_fits_39 : decode cX0_fits 39 = .ok (.iload_n 3, 1) := by decide +kernel
theorem dX0_fits_40 : decode cX0_fits 40 = .ok (.imul, 1) := by decide +kernel
theorem dX0_fits_41 : decode cX0_fits 41 = .ok (.if_icmp .gt 7, 3) := by decide +kernel
theorem dX0_fits_44 : decode cX0_fits 44 = .ok (.iconst 1, 1) := by decide +kernel
theorem dX0_fits_45 : decode cX0_fits 45 = .ok (.goto 4, 3) := by decide +kernel
theorem dX0_fits_48 : decode cX0_fits 48 = .ok (.iconst 0, 1) := by decide +kernel
theorem dX0_fits_49 : decode cX0_fits 49 = .ok (.ireturn, 1) := by decide +kernel
theorem dX0_add_0 : decode cX0_add 0 = .ok (.aload_n 0, 1) := by decide +kernel
theorem dX0_add_1 : decode cX0_add 1 = .ok (.aload_n 0, 1) := by decide +kernel
theorem dX0_add_2 : decode cX0_add 2 = .ok (.getfield 13, 3) := by decide +kernel
theorem dX0_add_5 : decode cX0_add 5 = .ok (.putfield 19, 3) := by decide +kernel
theorem dX0_add_8 : decode cX0_add 8 = .ok (.aload_n 0, 1) := by decide +kernel
theorem dX0_add_9 : decode cX0_add 9 = .ok (.aload_n 0, 1) := by decide +kernel
theorem dX0_add_10 : decode cX0_add 10 = .ok (.getfield 16, 3) := by decide +kernel
theorem dX0_add_13 : decode cX0_add 13 = .ok (.putfield 22, 3) := by decide +kernel
theorem dX0_add_16 : decode cX0_add 16 = .ok (.aload_n 0, 1) := by decide +kernel
theorem dX0_add_17 : decode cX0_add 17 = .ok (.iload_n 1, 1) := by decide +kernel
theorem dX0_add_18 : decode cX0_add 18 = .ok (.putfield 13, 3) := by decide +kernel
theorem dX0_add_21 : decode cX0_add 21 = .ok (.aload_n 0, 1) := by decide +kernel
theorem dX0_add_22 : decode cX0_add 22 = .ok (.iload_n 2, 1) := by decide +kernel
theorem dX0_add_23 : decode cX0_add 23 = .ok (.putfield 16, 3) := by decide +kernel
theorem dX0_add_26 : decode cX0_add 26 = .ok (.aload_n 0, 1) := by decide +kernel
theorem dX0_add_27 : decode cX0_add 27 = .ok (.aload_n 0, 1) := by decide +kernel
theorem dX0_add_28 : decode cX0_add 28 = .ok (.getfield 7, 3) := by decide +kernel
theorem dX0_add_31 : decode cX0_add 31 = .ok (.ifCond .ne 7, 3) := by decide +kernel
theorem dX0_add_34 : decode cX0_add 34 = .ok (.iconst 1, 1) := by decide +kernel
theorem dX0_add_35 : decode cX0_add 35 = .ok (.goto 4, 3) := by decide +kernel
theorem dX0_add_38 : decode cX0_add 38 = .ok (.iconst 2, 1) := by decide +kernel
theorem dX0_add_39 : decode cX0_add 39 = .ok (.putfield 7, 3) := by decide +kernel
theorem dX0_add_42 : decode cX0_add 42 = .ok (.return_, 1) := by decide +kernel
theorem dX0_putRight_0 : decode cX0_putRight 0 = .ok (.aload_n 0, 1) := by decide +kernel
theorem dX0_putRight_1 : decode cX0_putRight 1 = .ok (.getfield 7, 3) := by decide +kernel
theorem dX0_putRight_4 : decode cX0_putRight 4 = .ok (.ifCond .ne 5, 3) := by decide +kernel
theorem dX0_putRight_7 : decode cX0_putRight 7 = .ok (.iload_n 1, 1) := by decide +kernel
theorem dX0_putRight_8 : decode cX0_putRight 8 = .ok (.ireturn, 1) := by decide +kernel
theorem dX0_putRight_9 : decode cX0_putRight 9 = .ok (.iload_n 1, 1) := by decide +kernel
theorem dX0_putRight_10 : decode cX0_putRight 10 = .ok (.aload_n 0, 1) := by decide +kernel
theorem dX0_putRight_11 : decode cX0_putRight 11 = .ok (.getfield 13, 3) := by decide +kernel
theorem dX0_putRight_14 : decode cX0_putRight 14 = .ok (.isub, 1) := by decide +kernel
theorem dX0_putRight_15 : decode cX0_putRight 15 = .ok (.istore_n 2, 1) := by decide +kernel
theorem dX0_putRight_16 : decode cX0_putRight 16 = .ok (.aload_n 0, 1) := by decide +kernel
theorem dX0_putRight_17 : decode cX0_putRight 17 = .ok (.getfield 13, 3) := by decide +kernel
theorem dX0_putRight_20 : decode cX0_putRight 20 = .ok (.aload_n 0, 1) := by decide +kernel
theorem dX0_putRight_21 : decode cX0_putRight 21 = .ok (.getfield 19, 3) := by decide +kernel
theorem dX0_putRight_24 : decode cX0_putRight 24 = .ok (.isub, 1) := by decide +kernel
theorem dX0_putRight_25 : decode cX0_putRight 25 = .ok (.istore_n 3, 1) := by decide +kernel
theorem dX0_putRight_26 : decode cX0_putRight 26 = .ok (.aload_n 0, 1) := by decide +kernel
theorem dX0_putRight_27 : decode cX0_putRight 27 = .ok (.getfield 7, 3) := by decide +kernel
theorem dX0_putRight_30 : decode cX0_putRight 30 = .ok (.iconst 1, 1) := by decide +kernel
theorem dX0_putRight_31 : decode cX0_putRight 31 = .ok (.if_icmp .eq 7, 3) := by decide +kernel
theorem dX0_putRight_34 : decode cX0_putRight 34 = .ok (.iload_n 3, 1) := by decide +kernel
theorem dX0_putRight_35 : decode cX0_putRight 35 = .ok (.ifCond .gt 10, 3) := by decide +kernel
theorem dX0_putRight_38 : decode cX0_putRight 38 = .ok (.aload_n 0, 1) := by decide +kernel
theorem dX0_putRight_39 : decode cX0_putRight 39 = .ok (.getfield 16, 3) := by decide +kernel
theorem dX0_putRight_42 : decode cX0_putRight 42 = .ok (.iload_n 2, 1) := by decide +kernel
theorem dX0_putRight_43 : decode cX0_putRight 43 = .ok (.iadd, 1) := by decide +kernel
theorem dX0_putRight_44 : decode cX0_putRight 44 = .ok (.ireturn, 1) := by decide +kernel
theorem dX0_putRight_45 : decode cX0_putRight 45 = .ok (.aload_n 0, 1) := by decide +kernel
theorem dX0_putRight_46 : decode cX0_putRight 46 = .ok (.getfield 16, 3) := by decide +kernel
theorem dX0_putRight_49 : decode cX0_putRight 49 = .ok (.iload_n 2, 1) := by decide +kernel
theorem dX0_putRight_50 : decode cX0_putRight 50 = .ok (.aload_n 0, 1) := by decide +kernel
theorem dX0_putRight_51 : decode cX0_putRight 51 = .ok (.getfield 16, 3) := by decide +kernel
theorem dX0_putRight_54 : decode cX0_putRight 54 = .ok (.aload_n 0, 1) := by decide +kernel
theorem dX0_putRight_55 : decode cX0_putRight 55 = .ok (.getfield 22, 3) := by decide +kernel
theorem dX0_putRight_58 : decode cX0_putRight 58 = .ok (.isub, 1) := by decide +kernel
theorem dX0_putRight_59 : decode cX0_putRight 59 = .ok (.imul, 1) := by decide +kernel
theorem dX0_putRight_60 : decode cX0_putRight 60 = .ok (.iload_n 3, 1) := by decide +kernel
theorem dX0_putRight_61 : decode cX0_putRight 61 = .ok (.invokestatic 25, 3) := by decide +kernel
theorem dX0_putRight_64 : decode cX0_putRight 64 = .ok (.iadd, 1) := by decide +kernel
theorem dX0_putRight_65 : decode cX0_putRight 65 = .ok (.ireturn, 1) := by decide +kernel
theorem dX1_init_0 : decode cX1_init 0 = .ok (.aload_n 0, 1) := by decide +kernel
theorem dX1_init_1 : decode cX1_init 1 = .ok (.invokespecial 3, 3) := by decide +kernel
theorem dX1_init_4 : decode cX1_init 4 = .ok (.aload_n 0, 1) := by decide +kernel
theorem dX1_init_5 : decode cX1_init 5 = .ok (.bipush 6, 2) := by decide +kernel
theorem dX1_init_7 : decode cX1_init 7 = .ok (.anewarray 9, 3) := by decide +kernel
theorem dX1_init_10 : decode cX1_init 10 = .ok (.putfield 11, 3) := by decide +kernel
theorem dX1_init_13 : decode cX1_init 13 = .ok (.aload_n 0, 1) := by decide +kernel
theorem dX1_init_14 : decode cX1_init 14 = .ok (.iconst 4, 1) := by decide +kernel
theorem dX1_init_15 : decode cX1_init 15 = .ok (.bipush 6, 2) := by decide +kernel
theorem dX1_init_17 : decode cX1_init 17 = .ok (.multianewarray 17 2, 4) := by decide +kernel
theorem dX1_init_21 : decode cX1_init 21 = .ok (.putfield 19, 3) := by decide +kernel
theorem dX1_init_24 : decode cX1_init 24 = .ok (.aload_n 0, 1) := by decide +kernel
theorem dX1_init_25 : decode cX1_init 25 = .ok (.iconst 4, 1) := by decide +kernel
theorem dX1_init_26 : decode cX1_init 26 = .ok (.newarray .int, 2) := by decide +kernel
theorem dX1_init_28 : decode cX1_init 28 = .ok (.putfield 22, 3) := by decide +kernel
theorem dX1_init_31 : decode cX1_init 31 = .ok (.aload_n 0, 1) := by decide +kernel
theorem dX1_init_32 : decode cX1_init 32 = .ok (.iconst 4, 1) := by decide +kernel
theorem dX1_init_33 : decode cX1_init 33 = .ok (.newarray .int, 2) := by decide +kernel
theorem dX1_init_35 : decode cX1_init 35 = .ok (.putfield 26, 3) := by decide +kernel
theorem dX1_init_38 : decode cX1_init 38 = .ok (.return_, 1) := by decide +kernel
theorem dX1_clear_0 : decode cX1_clear 0 = .ok (.aload_n 0, 1) := by decide +kernel
theorem dX1_clear_1 : decode cX1_clear 1 = .ok (.iconst 0, 1) := by decide +kernel
theorem dX1_clear_2 : decode cX1_clear 2 = .ok (.putfield 29, 3) := by decide +kernel
theorem dX1_clear_5 : decode cX1_clear 5 = .ok (.aload_n 0, 1) := by decide +kernel
theorem dX1_clear_6 : decode cX1_clear 6 = .ok (.iconst 0, 1) := by decide +kernel
theorem dX1_clear_7 : decode cX1_clear 7 = .ok (.putfield 33, 3) := by decide +kernel
theorem dX1_clear_10 : decode cX1_clear 10 = .ok (.aload_n 0, 1) := by decide +kernel
theorem dX1_clear_11 : decode cX1_clear 11 = .ok (.lload_n 1, 1) := by decide +kernel
theorem dX1_clear_12 : decode cX1_clear 12 = .ok (.putfield 36, 3) := by decide +kernel
theorem dX1_clear_15 : decode cX1_clear 15 = .ok (.return_, 1) := by decide +kernel
theorem dX1_addTrack_0 : decode cX1_addTrack 0 = .ok (.aload_n 0, 1) := by decide +kernel
theorem dX1_addTrack_1 : decode cX1_addTrack 1 = .ok (.getfield 33, 3) := by decide +kernel
theorem dX1_addTrack_4 : decode cX1_addTrack 4 = .ok (.ifCond .lt 35, 3) := by decide +kernel
theorem dX1_addTrack_7 : decode cX1_addTrack 7 = .ok (.aload_n 0, 1) := by decide +kernel
theorem dX1_addTrack_8 : decode cX1_addTrack 8 = .ok (.getfield 33, 3) := by decide +kernel
theorem dX1_addTrack_11 : decode cX1_addTrack 11 = .ok (.aload_n 0, 1) := by decide +kernel
theorem dX1_addTrack_12 : decode cX1_addTrack 12 = .ok (.getfield 11, 3) := by decide +kernel
theorem dX1_addTrack_15 : decode cX1_addTrack 15 = .ok (.arraylength, 1) := by decide +kernel
theorem dX1_addTrack_16 : decode cX1_addTrack 16 = .ok (.if_icmp .ge 23, 3) := by decide +kernel
theorem dX1_addTrack_19 : decode cX1_addTrack 19 = .ok (.aload_n 0, 1) := by decide +kernel
theorem dX1_addTrack_20 : decode cX1_addTrack 20 = .ok (.getfield 11, 3) := by decide +kernel
theorem dX1_addTrack_23 : decode cX1_addTrack 23 = .ok (.aload_n 0, 1) := by decide +kernel
theorem dX1_addTrack_24 : decode cX1_addTrack 24 = .ok (.getfield 33, 3) := by decide +kernel
theorem dX1_addTrack_27 : decode cX1_addTrack 27 = .ok (.aload_n 1, 1) := by decide +kernel
theorem dX1_addTrack_28 : decode cX1_addTrack 28 = .ok (.aastore, 1) := by decide +kernel
theorem dX1_addTrack_29 : decode cX1_addTrack 29 = .ok (.aload_n 0, 1) := by decide +kernel
theorem dX1_addTrack_30 : decode cX1_addTrack 30 = .ok (.dup, 1) := by decide +kernel
theorem dX1_addTrack_31 : decode cX1_addTrack 31 = .ok (.getfield 33, 3) := by decide +kernel
theorem dX1_addTrack_34 : decode cX1_addTrack 34 = .ok (.iconst 1, 1) := by decide +kernel
theorem dX1_addTrack_35 : decode cX1_addTrack 35 = .ok (.iadd, 1) := by decide +kernel
theorem dX1_addTrack_36 : decode cX1_addTrack 36 = .ok (.putfield 33, 3) := by decide +kernel
theorem dX1_addTrack_39 : decode cX1_addTrack 39 = .ok (.return_, 1) := by decide +kernel
theorem dX1_addReport_0 : decode cX1_addReport 0 = .ok (.aload_n 0, 1) := by decide +kernel
theorem dX1_addReport_1 : decode cX1_addReport 1 = .ok (.getfield 29, 3) := by decide +kernel
theorem dX1_addReport_4 : decode cX1_addReport 4 = .ok (.iconst 4, 1) := by decide +kernel
theorem dX1_addReport_5 : decode cX1_addReport 5 = .ok (.if_icmp .ge 13, 3) := by decide +kernel
theorem dX1_addReport_8 : decode cX1_addReport 8 = .ok (.aload_n 0, 1) := by decide +kernel
theorem dX1_addReport_9 : decode cX1_addReport 9 = .ok (.dup, 1) := by decide +kernel
theorem dX1_addReport_10 : decode cX1_addReport 10 = .ok (.getfield 29, 3) := by decide +kernel
theorem dX1_addReport_13 : decode cX1_addReport 13 = .ok (.iconst 1, 1) := by decide +kernel
theorem dX1_addReport_14 : decode cX1_addReport 14 = .ok (.iadd, 1) := by decide +kernel
theorem dX1_addReport_15 : decode cX1_addReport 15 = .ok (.putfield 29, 3) := by decide +kernel
theorem dX1_addReport_18 : decode cX1_addReport 18 = .ok (.return_, 1) := by decide +kernel
theorem dX1_keepChoice_0 : decode cX1_keepChoice 0 = .ok (.aload_n 0, 1) := by decide +kernel
theorem dX1_keepChoice_1 : decode cX1_keepChoice 1 = .ok (.lload_n 1, 1) := by decide +kernel
theorem dX1_keepChoice_2 : decode cX1_keepChoice 2 = .ok (.putfield 40, 3) := by decide +kernel
theorem dX1_keepChoice_5 : decode cX1_keepChoice 5 = .ok (.aload_n 0, 1) := by decide +kernel
theorem dX1_keepChoice_6 : decode cX1_keepChoice 6 = .ok (.getfield 22, 3) := by decide +kernel
theorem dX1_keepChoice_9 : decode cX1_keepChoice 9 = .ok (.iconst 0, 1) := by decide +kernel
theorem dX1_keepChoice_10 : decode cX1_keepChoice 10 = .ok (.aload_n 0, 1) := by decide +kernel
theorem dX1_keepChoice_11 : decode cX1_keepChoice 11 = .ok (.getfield 26, 3) := by decide +kernel
theorem dX1_keepChoice_14 : decode cX1_keepChoice 14 = .ok (.iconst 0, 1) := by decide +kernel
theorem dX1_keepChoice_15 : decode cX1_keepChoice 15 = .ok (.iconst 4, 1) := by decide +kernel
theorem dX1_keepChoice_16 : decode cX1_keepChoice 16 = .ok (.invokestatic 43, 3) := by decide +kernel
theorem dX1_keepChoice_19 : decode cX1_keepChoice 19 = .ok (.return_, 1) := by decide +kernel
theorem dX1_takerOf_0 : decode cX1_takerOf 0 = .ok (.iload_n 1, 1) := by decide +kernel
theorem dX1_takerOf_1 : decode cX1_takerOf 1 = .ok (.ifCond .lt 20, 3) := by decide +kernel
theorem dX1_takerOf_4 : decode cX1_takerOf 4 = .ok (.iload_n 1, 1) := by decide +kernel
theorem dX1_takerOf_5 : decode cX1_takerOf 5 = .ok (.aload_n 0, 1) := by decide +kernel
theorem dX1_takerOf_6 : decode cX1_takerOf 6 = .ok (.getfield 29, 3) := by decide +kernel
theorem dX1_takerOf_9 : decode cX1_takerOf 9 = .ok (.if_icmp .ge 12, 3) := by decide +kernel
theorem dX1_takerOf_12 : decode cX1_takerOf 12 = .ok (.iload_n 1, 1) := by decide +kernel
theorem dX1_takerOf_13 : decode cX1_takerOf 13 = .ok (.aload_n 0, 1) := by decide +kernel
theorem dX1_takerOf_14 : decode cX1_takerOf 14 = .ok (.getfield 26, 3) := by decide +kernel
theorem dX1_takerOf_17 : decode cX1_takerOf 17 = .ok (.arraylength, 1) := by decide +kernel
theorem dX1_takerOf_18 : decode cX1_takerOf 18 = .ok (.if_icmp .lt 5, 3) := by decide +kernel
theorem dX1_takerOf_21 : decode cX1_takerOf 21 = .ok (.aconst_null, 1) := by decide +kernel
theorem dX1_takerOf_22 : decode cX1_takerOf 22 = .ok (.areturn, 1) := by decide +kernel
theorem dX1_takerOf_23 : decode cX1_takerOf 23 = .ok (.aload_n 0, 1) := by decide +kernel
theorem dX1_takerOf_24 : decode cX1_takerOf 24 = .ok (.getfield 26, 3) := by decide +kernel
theorem dX1_takerOf_27 : decode cX1_takerOf 27 = .ok (.iload_n 1, 1) := by decide +kernel
theorem dX1_takerOf_28 : decode cX1_takerOf 28 = .ok (.iaload, 1) := by decide +kernel
theorem dX1_takerOf_29 : decode cX1_takerOf 29 = .ok (.istore_n 2, 1) := by decide +kernel
theorem dX1_takerOf_30 : decode cX1_takerOf 30 = .ok (.iload_n 2, 1) := by decide +kernel
theorem dX1_takerOf_31 : decode cX1_takerOf 31 = .ok (.ifCond .lt 20, 3) := by decide +kernel
theorem dX1_takerOf_34 : decode cX1_takerOf 34 = .ok (.iload_n 2, 1) := by decide +kernel
theorem dX1_takerOf_35 : decode cX1_takerOf 35 = .ok (.aload_n 0, 1) := by decide +kernel
theorem dX1_takerOf_36 : decode cX1_takerOf 36 = .ok (.getfield 33, 3) := by decide +kernel
theorem dX1_takerOf_39 : decode cX1_takerOf 39 = .ok (.if_icmp .ge 12, 3) := by decide +kernel
theorem dX1_takerOf_42 : decode cX1_takerOf 42 = .ok (.iload_n 2, 1) := by decide +kernel
theorem dX1_takerOf_43 : decode cX1_takerOf 43 = .ok (.aload_n 0, 1) := by decide +kernel
theorem dX1_takerOf_44 : decode cX1_takerOf 44 = .ok (.getfield 11, 3) := by decide +kernel
theorem dX1_takerOf_47 : decode cX1_takerOf 47 = .ok (.arraylength, 1) := by decide +kernel
theorem dX1_takerOf_48 : decode cX1_takerOf 48 = .ok (.if_icmp .lt 7, 3) := by decide +kernel
theorem dX1_takerOf_51 : decode cX1_takerOf 51 = .ok (.aconst_null, 1) := by decide +kernel
theorem dX1_takerOf_52 : decode cX1_takerOf 52 = .ok (.goto 9, 3) := by decide +kernel
theorem dX1_takerOf_55 : decode cX1_takerOf 55 = .ok (.aload_n 0, 1) := by decide +kernel
theorem dX1_takerOf_56 : decode cX1_takerOf 56 = .ok (.getfield 11, 3) := by decide +kernel
theorem dX1_takerOf_59 : decode cX1_takerOf 59 = .ok (.iload_n 2, 1) := by decide +kernel
theorem dX1_takerOf_60 : decode cX1_takerOf 60 = .ok (.aaload, 1) := by decide +kernel
theorem dX1_takerOf_61 : decode cX1_takerOf 61 = .ok (.areturn, 1) := by decide +kernel
theorem dX1_hasReportFor_0 : decode cX1_hasReportFor 0 = .ok (.iconst 0, 1) := by decide +kernel
theorem dX1_hasReportFor_1 : decode cX1_hasReportFor 1 = .ok (.istore_n 2, 1) := by decide +kernel
theorem dX1_hasReportFor_2 : decode cX1_hasReportFor 2 = .ok (.iload_n 2, 1) := by decide +kernel
theorem dX1_hasReportFor_3 : decode cX1_hasReportFor 3 = .ok (.aload_n 0, 1) := by decide +kernel
theorem dX1_hasReportFor_4 : decode cX1_hasReportFor 4 = .ok (.getfield 29, 3) := by decide +kernel
theorem dX1_hasReportFor_7 : decode cX1_hasReportFor 7 = .ok (.if_icmp .ge 30, 3) := by decide +kernel
theorem dX1_hasReportFor_10 : decode cX1_hasReportFor 10 = .ok (.iload_n 2, 1) := by decide +kernel
theorem dX1_hasReportFor_11 : decode cX1_hasReportFor 11 = .ok (.aload_n 0, 1) := by decide +kernel
theorem dX1_hasReportFor_12 : decode cX1_hasReportFor 12 = .ok (.getfield 26, 3) := by decide +kernel
theorem dX1_hasReportFor_15 : decode cX1_hasReportFor 15 = .ok (.arraylength, 1) := by decide +kernel
theorem dX1_hasReportFor_16 : decode cX1_hasReportFor 16 = .ok (.if_icmp .ge 21, 3) := by decide +kernel
theorem dX1_hasReportFor_19 : decode cX1_hasReportFor 19 = .ok (.aload_n 0, 1) := by decide +kernel
theorem dX1_hasReportFor_20 : decode cX1_hasReportFor 20 = .ok (.getfield 26, 3) := by decide +kernel
theorem dX1_hasReportFor_23 : decode cX1_hasReportFor 23 = .ok (.iload_n 2, 1) := by decide +kernel
theorem dX1_hasReportFor_24 : decode cX1_hasReportFor 24 = .ok (.iaload, 1) := by decide +kernel
theorem dX1_hasReportFor_25 : decode cX1_hasReportFor 25 = .ok (.iload_n 1, 1) := by decide +kernel
theorem dX1_hasReportFor_26 : decode cX1_hasReportFor 26 = .ok (.if_icmp .ne 5, 3) := by decide +kernel
theorem dX1_hasReportFor_29 : decode cX1_hasReportFor 29 = .ok (.iconst 1, 1) := by decide +kernel
theorem dX1_hasReportFor_30 : decode cX1_hasReportFor 30 = .ok (.ireturn, 1) := by decide +kernel
theorem dX1_hasReportFor_31 : decode cX1_hasReportFor 31 = .ok (.iinc 2 1, 3) := by decide +kernel
theorem dX1_hasReportFor_34 : decode cX1_hasReportFor 34 = .ok (.goto (-32), 3) := by decide +kernel
theorem dX1_hasReportFor_37 : decode cX1_hasReportFor 37 = .ok (.iconst 0, 1) := by decide +kernel
theorem dX1_hasReportFor_38 : decode cX1_hasReportFor 38 = .ok (.ireturn, 1) := by decide +kernel
theorem dX2_init_0 : decode cX2_init 0 = .ok (.aload_n 0, 1) := by decide +kernel
theorem dX2_init_1 : decode cX2_init 1 = .ok (.invokespecial 1, 3) := by decide +kernel
theorem dX2_init_4 : decode cX2_init 4 = .ok (.return_, 1) := by decide +kernel
theorem dX2_fill_0 : decode cX2_fill 0 = .ok (.aload_n 0, 1) := by decide +kernel
theorem dX2_fill_1 : decode cX2_fill 1 = .ok (.iload_n 1, 1) := by decide +kernel
theorem dX2_fill_2 : decode cX2_fill 2 = .ok (.putfield 7, 3) := by decide +kernel
theorem dX2_fill_5 : decode cX2_fill 5 = .ok (.aload_n 0, 1) := by decide +kernel
theorem dX2_fill_6 : decode cX2_fill 6 = .ok (.iload_n 2, 1) := by decide +kernel
theorem dX2_fill_7 : decode cX2_fill 7 = .ok (.putfield 13, 3) := by decide +kernel
theorem dX2_fill_10 : decode cX2_fill 10 = .ok (.aload_n 0, 1) := by decide +kernel
theorem dX2_fill_11 : decode cX2_fill 11 = .ok (.iload_n 3, 1) := by decide +kernel
theorem dX2_fill_12 : decode cX2_fill 12 = .ok (.putfield 16, 3) := by decide +kernel
theorem dX2_fill_15 : decode cX2_fill 15 = .ok (.return_, 1) := by decide +kernel
theorem dX3_init_0 : decode cX3_init 0 = .ok (.aload_n 0, 1) := by decide +kernel
theorem dX3_init_1 : decode cX3_init 1 = .ok (.invokespecial 3, 3) := by decide +kernel
theorem dX3_init_4 : decode cX3_init 4 = .ok (.aload_n 0, 1) := by decide +kernel
theorem dX3_init_5 : decode cX3_init 5 = .ok (.iconst 1, 1) := by decide +kernel
theorem dX3_init_6 : decode cX3_init 6 = .ok (.putfield 9, 3) := by decide +kernel
theorem dX3_init_9 : decode cX3_init 9 = .ok (.aload_n 0, 1) := by decide +kernel
theorem dX3_init_10 : decode cX3_init 10 = .ok (.iconst 1, 1) := by decide +kernel
theorem dX3_init_11 : decode cX3_init 11 = .ok (.putfield 15, 3) := by decide +kernel
theorem dX3_init_14 : decode cX3_init 14 = .ok (.aload_n 0, 1) := by decide +kernel
theorem dX3_init_15 : decode cX3_init 15 = .ok (.iconst (-1), 1) := by decide +kernel
theorem dX3_init_16 : decode cX3_init 16 = .ok (.putfield 19, 3) := by decide +kernel
theorem dX3_init_19 : decode cX3_init 19 = .ok (.aload_n 0, 1) := by decide +kernel
theorem dX3_init_20 : decode cX3_init 20 = .ok (.sipush 512, 3) := by decide +kernel
theorem dX3_init_23 : decode cX3_init 23 = .ok (.newarray .char, 2) := by decide +kernel
theorem dX3_init_25 : decode cX3_init 25 = .ok (.putfield 22, 3) := by decide +kernel
theorem dX3_init_28 : decode cX3_init 28 = .ok (.aload_n 0, 1) := by decide +kernel
theorem dX3_init_29 : decode cX3_init 29 = .ok (.iload_n 1, 1) := by decide +kernel
theorem dX3_init_30 : decode cX3_init 30 = .ok (.putfield 26, 3) := by decide +kernel
theorem dX3_init_33 : decode cX3_init 33 = .ok (.aload_n 0, 1) := by decide +kernel
theorem dX3_init_34 : decode cX3_init 34 = .ok (.aload_n 2, 1) := by decide +kernel
theorem dX3_init_35 : decode cX3_init 35 = .ok (.getfield 29, 3) := by decide +kernel
theorem dX3_init_38 : decode cX3_init 38 = .ok (.putfield 34, 3) := by decide +kernel
theorem dX3_init_41 : decode cX3_init 41 = .ok (.aload_n 0, 1) := by decide +kernel
theorem dX3_init_42 : decode cX3_init 42 = .ok (.bipush 16, 2) := by decide +kernel
theorem dX3_init_44 : decode cX3_init 44 = .ok (.aload_n 2, 1) := by decide +kernel
theorem dX3_init_45 : decode cX3_init 45 = .ok (.getfield 35, 3) := by decide +kernel
theorem dX3_init_48 : decode cX3_init 48 = .ok (.imul, 1) := by decide +kernel
theorem dX3_init_49 : decode cX3_init 49 = .ok (.putfield 38, 3) := by decide +kernel
theorem dX3_init_52 : decode cX3_init 52 = .ok (.aload_n 0, 1) := by decide +kernel
theorem dX3_init_53 : decode cX3_init 53 = .ok (.bipush 16, 2) := by decide +kernel
theorem dX3_init_55 : decode cX3_init 55 = .ok (.aload_n 2, 1) := by decide +kernel
theorem dX3_init_56 : decode cX3_init 56 = .ok (.getfield 39, 3) := by decide +kernel
theorem dX3_init_59 : decode cX3_init 59 = .ok (.imul, 1) := by decide +kernel
theorem dX3_init_60 : decode cX3_init 60 = .ok (.putfield 42, 3) := by decide +kernel
theorem dX3_init_63 : decode cX3_init 63 = .ok (.aload_n 0, 1) := by decide +kernel
theorem dX3_init_64 : decode cX3_init 64 = .ok (.getfield 22, 3) := by decide +kernel
theorem dX3_init_67 : decode cX3_init 67 = .ok (.iconst 0, 1) := by decide +kernel
theorem dX3_init_68 : decode cX3_init 68 = .ok (.bipush 110, 2) := by decide +kernel
theorem dX3_init_70 : decode cX3_init 70 = .ok (.castore, 1) := by decide +kernel
theorem dX3_init_71 : decode cX3_init 71 = .ok (.aload_n 0, 1) := by decide +kernel
theorem dX3_init_72 : decode cX3_init 72 = .ok (.iconst 1, 1) := by decide +kernel
theorem dX3_init_73 : decode cX3_init 73 = .ok (.putfield 43, 3) := by decide +kernel
theorem dX3_init_76 : decode cX3_init 76 = .ok (.return_, 1) := by decide +kernel
theorem dX3_xAt_0 : decode cX3_xAt 0 = .ok (.aload_n 0, 1) := by decide +kernel
theorem dX3_xAt_1 : decode cX3_xAt 1 = .ok (.getfield 38, 3) := by decide +kernel
theorem dX3_xAt_4 : decode cX3_xAt 4 = .ok (.aload_n 0, 1) := by decide +kernel
theorem dX3_xAt_5 : decode cX3_xAt 5 = .ok (.getfield 46, 3) := by decide +kernel
theorem dX3_xAt_8 : decode cX3_xAt 8 = .ok (.iload_n 1, 1) := by decide +kernel
theorem dX3_xAt_9 : decode cX3_xAt 9 = .ok (.aload_n 0, 1) := by decide +kernel
theorem dX3_xAt_10 : decode cX3_xAt 10 = .ok (.getfield 34, 3) := by decide +kernel
theorem dX3_xAt_13 : decode cX3_xAt 13 = .ok (.isub, 1) := by decide +kernel
theorem dX3_xAt_14 : decode cX3_xAt 14 = .ok (.imul, 1) := by decide +kernel
theorem dX3_xAt_15 : decode cX3_xAt 15 = .ok (.iadd, 1) := by decide +kernel
theorem dX3_xAt_16 : decode cX3_xAt 16 = .ok (.ireturn, 1) := by decide +kernel
theorem dX3_yAt_0 : decode cX3_yAt 0 = .ok (.aload_n 0, 1) := by decide +kernel
theorem dX3_yAt_1 : decode cX3_yAt 1 = .ok (.getfield 42, 3) := by decide +kernel
theorem dX3_yAt_4 : decode cX3_yAt 4 = .ok (.aload_n 0, 1) := by decide +kernel
theorem dX3_yAt_5 : decode cX3_yAt 5 = .ok (.getfield 49, 3) := by decide +kernel
theorem dX3_yAt_8 : decode cX3_yAt 8 = .ok (.iload_n 1, 1) := by decide +kernel
theorem dX3_yAt_9 : decode cX3_yAt 9 = .ok (.aload_n 0, 1) := by decide +kernel
theorem dX3_yAt_10 : decode cX3_yAt 10 = .ok (.getfield 34, 3) := by decide +kernel
theorem dX3_yAt_13 : decode cX3_yAt 13 = .ok (.isub, 1) := by decide +kernel
theorem dX3_yAt_14 : decode cX3_yAt 14 = .ok (.imul, 1) := by decide +kernel
theorem dX3_yAt_15 : decode cX3_yAt 15 = .ok (.iadd, 1) := by decide +kernel
theorem dX3_yAt_16 : decode cX3_yAt 16 = .ok (.ireturn, 1) := by decide +kernel
theorem dX3_distanceTo_0 : decode cX3_distanceTo 0 = .ok (.bipush 16, 2) := by decide +kernel
theorem dX3_distanceTo_2 : decode cX3_distanceTo 2 = .ok (.aload_n 1, 1) := by decide +kernel
theorem dX3_distanceTo_3 : decode cX3_distanceTo 3 = .ok (.getfield 35, 3) := by decide +kernel
theorem dX3_distanceTo_6 : decode cX3_distanceTo 6 = .ok (.imul, 1) := by decide +kernel
theorem dX3_distanceTo_7 : decode cX3_distanceTo 7 = .ok (.aload_n 0, 1) := by decide +kernel
theorem dX3_distanceTo_8 : decode cX3_distanceTo 8 = .ok (.aload_n 1, 1) := by decide +kernel
theorem dX3_distanceTo_9 : decode cX3_distanceTo 9 = .ok (.getfield 29, 3) := by decide +kernel
theorem dX3_distanceTo_12 : decode cX3_distanceTo 12 = .ok (.invokevirtual 52, 3) := by decide +kernel
theorem dX3_distanceTo_15 : decode cX3_distanceTo 15 = .ok (.isub, 1) := by decide +kernel
theorem dX3_distanceTo_16 : decode cX3_distanceTo 16 = .ok (.bipush 16, 2) := by decide +kernel
theorem dX3_distanceTo_18 : decode cX3_distanceTo 18 = .ok (.aload_n 1, 1) := by decide +kernel
theorem dX3_distanceTo_19 : decode cX3_distanceTo 19 = .ok (.getfield 39, 3) := by decide +kernel
theorem dX3_distanceTo_22 : decode cX3_distanceTo 22 = .ok (.imul, 1) := by decide +kernel
theorem dX3_distanceTo_23 : decode cX3_distanceTo 23 = .ok (.aload_n 0, 1) := by decide +kernel
theorem dX3_distanceTo_24 : decode cX3_distanceTo 24 = .ok (.aload_n 1, 1) := by decide +kernel
theorem dX3_distanceTo_25 : decode cX3_distanceTo 25 = .ok (.getfield 29, 3) := by decide +kernel
theorem dX3_distanceTo_28 : decode cX3_distanceTo 28 = .ok (.invokevirtual 56, 3) := by decide +kernel
theorem dX3_distanceTo_31 : decode cX3_distanceTo 31 = .ok (.isub, 1) := by decide +kernel
theorem dX3_distanceTo_32 : decode cX3_distanceTo 32 = .ok (.invokestatic 59, 3) := by decide +kernel
theorem dX3_distanceTo_35 : decode cX3_distanceTo 35 = .ok (.lreturn, 1) := by decide +kernel
theorem dX3_follow_0 : decode cX3_follow 0 = .ok (.aload_n 0, 1) := by decide +kernel
theorem dX3_follow_1 : decode cX3_follow 1 = .ok (.aload_n 1, 1) := by decide +kernel
theorem dX3_follow_2 : decode cX3_follow 2 = .ok (.getfield 29, 3) := by decide +kernel
theorem dX3_follow_5 : decode cX3_follow 5 = .ok (.invokevirtual 52, 3) := by decide +kernel
theorem dX3_follow_8 : decode cX3_follow 8 = .ok (.istore 4, 2) := by decide +kernel
theorem dX3_follow_10 : decode cX3_follow 10 = .ok (.aload_n 0, 1) := by decide +kernel
theorem dX3_follow_11 : decode cX3_follow 11 = .ok (.aload_n 1, 1) := by decide +kernel
theorem dX3_follow_12 : decode cX3_follow 12 = .ok (.getfield 29, 3) := by decide +kernel
theorem dX3_follow_15 : decode cX3_follow 15 = .ok (.invokevirtual 56, 3) := by decide +kernel
theorem dX3_follow_18 : decode cX3_follow 18 = .ok (.istore 5, 2) := by decide +kernel
theorem dX3_follow_20 : decode cX3_follow 20 = .ok (.bipush 16, 2) := by decide +kernel
theorem dX3_follow_22 : decode cX3_follow 22 = .ok (.aload_n 1, 1) := by decide +kernel
theorem dX3_follow_23 : decode cX3_follow 23 = .ok (.getfield 35, 3) := by decide +kernel
theorem dX3_follow_26 : decode cX3_follow 26 = .ok (.imul, 1) := by decide +kernel
theorem dX3_follow_27 : decode cX3_follow 27 = .ok (.iload 4, 2) := by decide +kernel
theorem dX3_follow_29 : decode cX3_follow 29 = .ok (.isub, 1) := by decide +kernel
theorem dX3_follow_30 : decode cX3_follow 30 = .ok (.istore 6, 2) := by decide +kernel
theorem dX3_follow_32 : decode cX3_follow 32 = .ok (.bipush 16, 2) := by decide +kernel
theorem dX3_follow_34 : decode cX3_follow 34 = .ok (.aload_n 1, 1) := by decide +kernel
theorem dX3_follow_35 : decode cX3_follow 35 = .ok (.getfield 39, 3) := by decide +kernel
theorem dX3_follow_38 : decode cX3_follow 38 = .ok (.imul, 1) := by decide +kernel
theorem dX3_follow_39 : decode cX3_follow 39 = .ok (.iload 5, 2) := by decide +kernel
theorem dX3_follow_41 : decode cX3_follow 41 = .ok (.isub, 1) := by decide +kernel
theorem dX3_follow_42 : decode cX3_follow 42 = .ok (.istore 7, 2) := by decide +kernel
theorem dX3_follow_44 : decode cX3_follow 44 = .ok (.aload_n 1, 1) := by decide +kernel
theorem dX3_follow_45 : decode cX3_follow 45 = .ok (.getfield 29, 3) := by decide +kernel
theorem dX3_follow_48 : decode cX3_follow 48 = .ok (.aload_n 0, 1) := by decide +kernel
theorem dX3_follow_49 : decode cX3_follow 49 = .ok (.getfield 34, 3) := by decide +kernel
theorem dX3_follow_52 : decode cX3_follow 52 = .ok (.isub, 1) := by decide +kernel
theorem dX3_follow_53 : decode cX3_follow 53 = .ok (.istore 8, 2) := by decide +kernel
theorem dX3_follow_55 : decode cX3_follow 55 = .ok (.aload_n 0, 1) := by decide +kernel
theorem dX3_follow_56 : decode cX3_follow 56 = .ok (.iload 4, 2) := by decide +kernel
theorem dX3_follow_58 : decode cX3_follow 58 = .ok (.iload 6, 2) := by decide +kernel
theorem dX3_follow_60 : decode cX3_follow 60 = .ok (.iload_n 2, 1) := by decide +kernel
theorem dX3_follow_61 : decode cX3_follow 61 = .ok (.imul, 1) := by decide +kernel
theorem dX3_follow_62 : decode cX3_follow 62 = .ok (.bipush 16, 2) := by decide +kernel
theorem dX3_follow_64 : decode cX3_follow 64 = .ok (.idiv, 1) := by decide +kernel
theorem dX3_follow_65 : decode cX3_follow 65 = .ok (.iadd, 1) := by decide +kernel
theorem dX3_follow_66 : decode cX3_follow 66 = .ok (.putfield 38, 3) := by decide +kernel
theorem dX3_follow_69 : decode cX3_follow 69 = .ok (.aload_n 0, 1) := by decide +kernel
theorem dX3_follow_70 : decode cX3_follow 70 = .ok (.iload 5, 2) := by decide +kernel
theorem dX3_follow_72 : decode cX3_follow 72 = .ok (.iload 7, 2) := by decide +kernel
theorem dX3_follow_74 : decode cX3_follow 74 = .ok (.iload_n 2, 1) := by decide +kernel
theorem dX3_follow_75 : decode cX3_follow 75 = .ok (.imul, 1) := by decide +kernel
theorem dX3_follow_76 : decode cX3_follow 76 = .ok (.bipush 16, 2) := by decide +kernel
theorem dX3_follow_78 : decode cX3_follow 78 = .ok (.idiv, 1) := by decide +kernel
theorem dX3_follow_79 : decode cX3_follow 79 = .ok (.iadd, 1) := by decide +kernel
theorem dX3_follow_80 : decode cX3_follow 80 = .ok (.putfield 42, 3) := by decide +kernel
theorem dX3_follow_83 : decode cX3_follow 83 = .ok (.aload_n 0, 1) := by decide +kernel
theorem dX3_follow_84 : decode cX3_follow 84 = .ok (.aload_n 0, 1) := by decide +kernel
theorem dX3_follow_85 : decode cX3_follow 85 = .ok (.getfield 46, 3) := by decide +kernel
theorem dX3_follow_88 : decode cX3_follow 88 = .ok (.iload 6, 2) := by decide +kernel
theorem dX3_follow_90 : decode cX3_follow 90 = .ok (.iload_n 3, 1) := by decide +kernel
theorem dX3_follow_91 : decode cX3_follow 91 = .ok (.imul, 1) := by decide +kernel
theorem dX3_follow_92 : decode cX3_follow 92 = .ok (.iload 8, 2) := by decide +kernel
theorem dX3_follow_94 : decode cX3_follow 94 = .ok (.invokestatic 63, 3) := by decide +kernel
theorem dX3_follow_97 : decode cX3_follow 97 = .ok (.putfield 46, 3) := by decide +kernel
theorem dX3_follow_100 : decode cX3_follow 100 = .ok (.aload_n 0, 1) := by decide +kernel
theorem dX3_follow_101 : decode cX3_follow 101 = .ok (.aload_n 0, 1) := by decide +kernel
theorem dX3_follow_102 : decode cX3_follow 102 = .ok (.getfield 49, 3) := by decide +kernel
theorem dX3_follow_105 : decode cX3_follow 105 = .ok (.iload 7, 2) := by decide +kernel
theorem dX3_follow_107 : decode cX3_follow 107 = .ok (.iload_n 3, 1) := by decide +kernel
theorem dX3_follow_108 : decode cX3_follow 108 = .ok (.imul, 1) := by decide +kernel
theorem dX3_follow_109 : decode cX3_follow 109 = .ok (.iload 8, 2) := by decide +kernel
theorem dX3_follow_111 : decode cX3_follow 111 = .ok (.invokestatic 63, 3) := by decide +kernel
theorem dX3_follow_114 : decode cX3_follow 114 = .ok (.putfield 49, 3) := by decide +kernel
theorem dX3_follow_117 : decode cX3_follow 117 = .ok (.aload_n 0, 1) := by decide +kernel
theorem dX3_follow_118 : decode cX3_follow 118 = .ok (.aload_n 1, 1) := by decide +kernel
theorem dX3_follow_119 : decode cX3_follow 119 = .ok (.getfield 29, 3) := by decide +kernel
theorem dX3_follow_122 : decode cX3_follow 122 = .ok (.putfield 34, 3) := by decide +kernel
theorem dX3_follow_125 : decode cX3_follow 125 = .ok (.aload_n 0, 1) := by decide +kernel
theorem dX3_follow_126 : decode cX3_follow 126 = .ok (.dup, 1) := by decide +kernel
theorem dX3_follow_127 : decode cX3_follow 127 = .ok (.getfield 9, 3) := by decide +kernel
theorem dX3_follow_130 : decode cX3_follow 130 = .ok (.iconst 1, 1) := by decide +kernel
theorem dX3_follow_131 : decode cX3_follow 131 = .ok (.iadd, 1) := by decide +kernel
theorem dX3_follow_132 : decode cX3_follow 132 = .ok (.putfield 9, 3) := by decide +kernel
theorem dX3_follow_135 : decode cX3_follow 135 = .ok (.aload_n 0, 1) := by decide +kernel
theorem dX3_follow_136 : decode cX3_follow 136 = .ok (.iconst 0, 1) := by decide +kernel
theorem dX3_follow_137 : decode cX3_follow 137 = .ok (.putfield 67, 3) := by decide +kernel
theorem dX3_follow_140 : decode cX3_follow 140 = .ok (.aload_n 0, 1) := by decide +kernel
theorem dX3_follow_141 : decode cX3_follow 141 = .ok (.bipush 104, 2) := by decide +kernel
theorem dX3_follow_143 : decode cX3_follow 143 = .ok (.invokevirtual 70, 3) := by decide +kernel
theorem dX3_follow_146 : decode cX3_follow 146 = .ok (.return_, 1) := by decide +kernel
theorem dX3_pushed_0 : decode cX3_pushed 0 = .ok (.bipush 16, 2) := by decide +kernel
theorem dX3_pushed_2 : decode cX3_pushed 2 = .ok (.iload_n 2, 1) := by decide +kernel
theorem dX3_pushed_3 : decode cX3_pushed 3 = .ok (.imul, 1) := by decide +kernel
theorem dX3_pushed_4 : decode cX3_pushed 4 = .ok (.istore_n 3, 1) := by decide +kernel
theorem dX3_pushed_5 : decode cX3_pushed 5 = .ok (.iload_n 3, 1) := by decide +kernel
theorem dX3_pushed_6 : decode cX3_pushed 6 = .ok (.ifCond .gt 5, 3) := by decide +kernel
theorem dX3_pushed_9 : decode cX3_pushed 9 = .ok (.iload_n 0, 1) := by decide +kernel
theorem dX3_pushed_10 : decode cX3_pushed 10 = .ok (.ireturn, 1) := by decide +kernel
theorem dX3_pushed_11 : decode cX3_pushed 11 = .ok (.iload_n 0, 1) := by decide +kernel
theorem dX3_pushed_12 : decode cX3_pushed 12 = .ok (.iload_n 1, 1) := by decide +kernel
theorem dX3_pushed_13 : decode cX3_pushed 13 = .ok (.iload_n 3, 1) := by decide +kernel
theorem dX3_pushed_14 : decode cX3_pushed 14 = .ok (.idiv, 1) := by decide +kernel
theorem dX3_pushed_15 : decode cX3_pushed 15 = .ok (.iadd, 1) := by decide +kernel
theorem dX3_pushed_16 : decode cX3_pushed 16 = .ok (.istore 4, 2) := by decide +kernel
theorem dX3_pushed_18 : decode cX3_pushed 18 = .ok (.sipush (-1600), 3) := by decide +kernel
theorem dX3_pushed_21 : decode cX3_pushed 21 = .ok (.sipush 1600, 3) := by decide +kernel
theorem dX3_pushed_24 : decode cX3_pushed 24 = .ok (.iload 4, 2) := by decide +kernel
theorem dX3_pushed_26 : decode cX3_pushed 26 = .ok (.invokestatic 74, 3) := by decide +kernel
theorem dX3_pushed_29 : decode cX3_pushed 29 = .ok (.invokestatic 80, 3) := by decide +kernel
theorem dX3_pushed_32 : decode cX3_pushed 32 = .ok (.ireturn, 1) := by decide +kernel
theorem dX3_miss_0 : decode cX3_miss 0 = .ok (.aload_n 0, 1) := by decide +kernel
theorem dX3_miss_1 : decode cX3_miss 1 = .ok (.dup, 1) := by decide +kernel
theorem dX3_miss_2 : decode cX3_miss 2 = .ok (.getfield 67, 3) := by decide +kernel
theorem dX3_miss_5 : decode cX3_miss 5 = .ok (.iconst 1, 1) := by decide +kernel
theorem dX3_miss_6 : decode cX3_miss 6 = .ok (.iadd, 1) := by decide +kernel
theorem dX3_miss_7 : decode cX3_miss 7 = .ok (.putfield 67, 3) := by decide +kernel
theorem dX3_miss_10 : decode cX3_miss 10 = .ok (.aload_n 0, 1) := by decide +kernel
theorem dX3_miss_11 : decode cX3_miss 11 = .ok (.bipush 120, 2) := by decide +kernel
theorem dX3_miss_13 : decode cX3_miss 13 = .ok (.invokevirtual 70, 3) := by decide +kernel
theorem dX3_miss_16 : decode cX3_miss 16 = .ok (.aload_n 0, 1) := by decide +kernel
theorem dX3_miss_17 : decode cX3_miss 17 = .ok (.getfield 67, 3) := by decide +kernel
theorem dX3_miss_20 : decode cX3_miss 20 = .ok (.iload_n 1, 1) := by decide +kernel
theorem dX3_miss_21 : decode cX3_miss 21 = .ok (.if_icmp .lt 14, 3) := by decide +kernel
theorem dX3_miss_24 : decode cX3_miss 24 = .ok (.aload_n 0, 1) := by decide +kernel
theorem dX3_miss_25 : decode cX3_miss 25 = .ok (.iconst 0, 1) := by decide +kernel
theorem dX3_miss_26 : decode cX3_miss 26 = .ok (.putfield 15, 3) := by decide +kernel
theorem dX3_miss_29 : decode cX3_miss 29 = .ok (.aload_n 0, 1) := by decide +kernel
theorem dX3_miss_30 : decode cX3_miss 30 = .ok (.bipush 108, 2) := by decide +kernel
theorem dX3_miss_32 : decode cX3_miss 32 = .ok (.invokevirtual 70, 3) := by decide +kernel
theorem dX3_miss_35 : decode cX3_miss 35 = .ok (.return_, 1) := by decide +kernel
theorem dX3_absorb_0 : decode cX3_absorb 0 = .ok (.aload_n 0, 1) := by decide +kernel
theorem dX3_absorb_1 : decode cX3_absorb 1 = .ok (.dup, 1) := by decide +kernel
theorem dX3_absorb_2 : decode cX3_absorb 2 = .ok (.getfield 9, 3) := by decide +kernel
theorem dX3_absorb_5 : decode cX3_absorb 5 = .ok (.aload_n 1, 1) := by decide +kernel
theorem dX3_absorb_6 : decode cX3_absorb 6 = .ok (.getfield 9, 3) := by decide +kernel
theorem dX3_absorb_9 : decode cX3_absorb 9 = .ok (.iadd, 1) := by decide +kernel
theorem dX3_absorb_10 : decode cX3_absorb 10 = .ok (.putfield 9, 3) := by decide +kernel
theorem dX3_absorb_13 : decode cX3_absorb 13 = .ok (.aload_n 0, 1) := by decide +kernel
theorem dX3_absorb_14 : decode cX3_absorb 14 = .ok (.bipush 103, 2) := by decide +kernel
theorem dX3_absorb_16 : decode cX3_absorb 16 = .ok (.invokevirtual 70, 3) := by decide +kernel
theorem dX3_absorb_19 : decode cX3_absorb 19 = .ok (.return_, 1) := by decide +kernel
theorem dX3_mergeInto_0 : decode cX3_mergeInto 0 = .ok (.aload_n 0, 1) := by decide +kernel
theorem dX3_mergeInto_1 : decode cX3_mergeInto 1 = .ok (.iconst 0, 1) := by decide +kernel
theorem dX3_mergeInto_2 : decode cX3_mergeInto 2 = .ok (.putfield 15, 3) := by decide +kernel
theorem dX3_mergeInto_5 : decode cX3_mergeInto 5 = .ok (.aload_n 0, 1) := by decide +kernel
theorem dX3_mergeInto_6 : decode cX3_mergeInto 6 = .ok (.aload_n 1, 1) := by decide +kernel
theorem dX3_mergeInto_7 : decode cX3_mergeInto 7 = .ok (.getfield 26, 3) := by decide +kernel
theorem dX3_mergeInto_10 : decode cX3_mergeInto 10 = .ok (.putfield 19, 3) := by decide +kernel
theorem dX3_mergeInto_13 : decode cX3_mergeInto 13 = .ok (.aload_n 0, 1) := by decide +kernel
theorem dX3_mergeInto_14 : decode cX3_mergeInto 14 = .ok (.bipush 109, 2) := by decide +kernel
theorem dX3_mergeInto_16 : decode cX3_mergeInto 16 = .ok (.invokevirtual 70, 3) := by decide +kernel
theorem dX3_mergeInto_19 : decode cX3_mergeInto 19 = .ok (.return_, 1) := by decide +kernel
theorem dX3_note_0 : decode cX3_note 0 = .ok (.aload_n 0, 1) := by decide +kernel
theorem dX3_note_1 : decode cX3_note 1 = .ok (.getfield 43, 3) := by decide +kernel
theorem dX3_note_4 : decode cX3_note 4 = .ok (.ifCond .lt 35, 3) := by decide +kernel
theorem dX3_note_7 : decode cX3_note 7 = .ok (.aload_n 0, 1) := by decide +kernel
theorem dX3_note_8 : decode cX3_note 8 = .ok (.getfield 43, 3) := by decide +kernel
theorem dX3_note_11 : decode cX3_note 11 = .ok (.aload_n 0, 1) := by decide +kernel
theorem dX3_note_12 : decode cX3_note 12 = .ok (.getfield 22, 3) := by decide +kernel
theorem dX3_note_15 : decode cX3_note 15 = .ok (.arraylength, 1) := by decide +kernel
theorem dX3_note_16 : decode cX3_note 16 = .ok (.if_icmp .ge 23, 3) := by decide +kernel
theorem dX3_note_19 : decode cX3_note 19 = .ok (.aload_n 0, 1) := by decide +kernel
theorem dX3_note_20 : decode cX3_note 20 = .ok (.getfield 22, 3) := by decide +kernel
theorem dX3_note_23 : decode cX3_note 23 = .ok (.aload_n 0, 1) := by decide +kernel
theorem dX3_note_24 : decode cX3_note 24 = .ok (.getfield 43, 3) := by decide +kernel
theorem dX3_note_27 : decode cX3_note 27 = .ok (.iload_n 1, 1) := by decide +kernel
theorem dX3_note_28 : decode cX3_note 28 = .ok (.castore, 1) := by decide +kernel
theorem dX3_note_29 : decode cX3_note 29 = .ok (.aload_n 0, 1) := by decide +kernel
theorem dX3_note_30 : decode cX3_note 30 = .ok (.dup, 1) := by decide +kernel
theorem dX3_note_31 : decode cX3_note 31 = .ok (.getfield 43, 3) := by decide +kernel
theorem dX3_note_34 : decode cX3_note 34 = .ok (.iconst 1, 1) := by decide +kernel
theorem dX3_note_35 : decode cX3_note 35 = .ok (.iadd, 1) := by decide +kernel
theorem dX3_note_36 : decode cX3_note 36 = .ok (.putfield 43, 3) := by decide +kernel
theorem dX3_note_39 : decode cX3_note 39 = .ok (.return_, 1) := by decide +kernel
theorem dX3_countSince_0 : decode cX3_countSince 0 = .ok (.iconst 0, 1) := by decide +kernel
theorem dX3_countSince_1 : decode cX3_countSince 1 = .ok (.istore_n 3, 1) := by decide +kernel
theorem dX3_countSince_2 : decode cX3_countSince 2 = .ok (.iload_n 1, 1) := by decide +kernel
theorem dX3_countSince_3 : decode cX3_countSince 3 = .ok (.iconst 0, 1) := by decide +kernel
theorem dX3_countSince_4 : decode cX3_countSince 4 = .ok (.invokestatic 80, 3) := by decide +kernel
theorem dX3_countSince_7 : decode cX3_countSince 7 = .ok (.istore 4, 2) := by decide +kernel
theorem dX3_countSince_9 : decode cX3_countSince 9 = .ok (.iload 4, 2) := by decide +kernel
theorem dX3_countSince_11 : decode cX3_countSince 11 = .ok (.aload_n 0, 1) := by decide +kernel
theorem dX3_countSince_12 : decode cX3_countSince 12 = .ok (.getfield 43, 3) := by decide +kernel
theorem dX3_countSince_15 : decode cX3_countSince 15 = .ok (.if_icmp .ge 33, 3) := by decide +kernel
theorem dX3_countSince_18 : decode cX3_countSince 18 = .ok (.iload 4, 2) := by decide +kernel
theorem dX3_countSince_20 : decode cX3_countSince 20 = .ok (.aload_n 0, 1) := by decide +kernel
theorem dX3_countSince_21 : decode cX3_countSince 21 = .ok (.getfield 22, 3) := by decide +kernel
theorem dX3_countSince_24 : decode cX3_countSince 24 = .ok (.arraylength, 1) := by decide +kernel
theorem dX3_countSince_25 : decode cX3_countSince 25 = .ok (.if_icmp .ge 23, 3) := by decide +kernel
theorem dX3_countSince_28 : decode cX3_countSince 28 = .ok (.aload_n 0, 1) := by decide +kernel
theorem dX3_countSince_29 : decode cX3_countSince 29 = .ok (.getfield 22, 3) := by decide +kernel
theorem dX3_countSince_32 : decode cX3_countSince 32 = .ok (.iload 4, 2) := by decide +kernel
theorem dX3_countSince_34 : decode cX3_countSince 34 = .ok (.caload, 1) := by decide +kernel
theorem dX3_countSince_35 : decode cX3_countSince 35 = .ok (.iload_n 2, 1) := by decide +kernel
theorem dX3_countSince_36 : decode cX3_countSince 36 = .ok (.if_icmp .ne 6, 3) := by decide +kernel
theorem dX3_countSince_39 : decode cX3_countSince 39 = .ok (.iinc 3 1, 3) := by decide +kernel
theorem dX3_countSince_42 : decode cX3_countSince 42 = .ok (.iinc 4 1, 3) := by decide +kernel
theorem dX3_countSince_45 : decode cX3_countSince 45 = .ok (.goto (-36), 3) := by decide +kernel
theorem dX3_countSince_48 : decode cX3_countSince 48 = .ok (.iload_n 3, 1) := by decide +kernel
theorem dX3_countSince_49 : decode cX3_countSince 49 = .ok (.ireturn, 1) := by decide +kernel
theorem dX4_init_0 : decode cX4_init 0 = .ok (.aload_n 0, 1) := by decide +kernel
theorem dX4_init_1 : decode cX4_init 1 = .ok (.invokespecial 1, 3) := by decide +kernel
theorem dX4_init_4 : decode cX4_init 4 = .ok (.aload_n 0, 1) := by decide +kernel
theorem dX4_init_5 : decode cX4_init 5 = .ok (.iconst 4, 1) := by decide +kernel
theorem dX4_init_6 : decode cX4_init 6 = .ok (.anewarray 9, 3) := by decide +kernel
theorem dX4_init_9 : decode cX4_init 9 = .ok (.putfield 11, 3) := by decide +kernel
theorem dX4_init_12 : decode cX4_init 12 = .ok (.aload_n 0, 1) := by decide +kernel
theorem dX4_init_13 : decode cX4_init 13 = .ok (.iconst 4, 1) := by decide +kernel
theorem dX4_init_14 : decode cX4_init 14 = .ok (.anewarray 15, 3) := by decide +kernel
theorem dX4_init_17 : decode cX4_init 17 = .ok (.putfield 17, 3) := by decide +kernel
theorem dX4_init_20 : decode cX4_init 20 = .ok (.aload_n 0, 1) := by decide +kernel
theorem dX4_init_21 : decode cX4_init 21 = .ok (.bipush 60, 2) := by decide +kernel
theorem dX4_init_23 : decode cX4_init 23 = .ok (.anewarray 21, 3) := by decide +kernel
theorem dX4_init_26 : decode cX4_init 26 = .ok (.putfield 23, 3) := by decide +kernel
theorem dX4_init_29 : decode cX4_init 29 = .ok (.aload_n 0, 1) := by decide +kernel
theorem dX4_init_30 : decode cX4_init 30 = .ok (.new 27, 3) := by decide +kernel
theorem dX4_init_33 : decode cX4_init 33 = .ok (.dup, 1) := by decide +kernel
theorem dX4_init_34 : decode cX4_init 34 = .ok (.invokespecial 29, 3) := by decide +kernel
theorem dX4_init_37 : decode cX4_init 37 = .ok (.putfield 30, 3) := by decide +kernel
theorem dX4_init_40 : decode cX4_init 40 = .ok (.aload_n 0, 1) := by decide +kernel
theorem dX4_init_41 : decode cX4_init 41 = .ok (.bipush 20, 2) := by decide +kernel
theorem dX4_init_43 : decode cX4_init 43 = .ok (.putfield 34, 3) := by decide +kernel
theorem dX4_init_46 : decode cX4_init 46 = .ok (.aload_n 0, 1) := by decide +kernel
theorem dX4_init_47 : decode cX4_init 47 = .ok (.bipush 8, 2) := by decide +kernel
theorem dX4_init_49 : decode cX4_init 49 = .ok (.putfield 38, 3) := by decide +kernel
theorem dX4_init_52 : decode cX4_init 52 = .ok (.aload_n 0, 1) := by decide +kernel
theorem dX4_init_53 : decode cX4_init 53 = .ok (.iconst 4, 1) := by decide +kernel
theorem dX4_init_54 : decode cX4_init 54 = .ok (.putfield 41, 3) := by decide +kernel
theorem dX4_init_57 : decode cX4_init 57 = .ok (.aload_n 0, 1) := by decide +kernel
theorem dX4_init_58 : decode cX4_init 58 = .ok (.iconst 3, 1) := by decide +kernel
theorem dX4_init_59 : decode cX4_init 59 = .ok (.putfield 44, 3) := by decide +kernel
theorem dX4_init_62 : decode cX4_init 62 = .ok (.aload_n 0, 1) := by decide +kernel
theorem dX4_init_63 : decode cX4_init 63 = .ok (.iconst 2, 1) := by decide +kernel
theorem dX4_init_64 : decode cX4_init 64 = .ok (.putfield 47, 3) := by decide +kernel
theorem dX4_init_67 : decode cX4_init 67 = .ok (.iconst 0, 1) := by decide +kernel
theorem dX4_init_68 : decode cX4_init 68 = .ok (.istore_n 1, 1) := by decide +kernel
theorem dX4_init_69 : decode cX4_init 69 = .ok (.iload_n 1, 1) := by decide +kernel
theorem dX4_init_70 : decode cX4_init 70 = .ok (.aload_n 0, 1) := by decide +kernel
theorem dX4_init_71 : decode cX4_init 71 = .ok (.getfield 11, 3) := by decide +kernel
theorem dX4_init_74 : decode cX4_init 74 = .ok (.arraylength, 1) := by decide +kernel
theorem dX4_init_75 : decode cX4_init 75 = .ok (.if_icmp .ge 22, 3) := by decide +kernel
theorem dX4_init_78 : decode cX4_init 78 = .ok (.aload_n 0, 1) := by decide +kernel
theorem dX4_init_79 : decode cX4_init 79 = .ok (.getfield 11, 3) := by decide +kernel
theorem dX4_init_82 : decode cX4_init 82 = .ok (.iload_n 1, 1) := by decide +kernel
theorem dX4_init_83 : decode cX4_init 83 = .ok (.new 9, 3) := by decide +kernel
theorem dX4_init_86 : decode cX4_init 86 = .ok (.dup, 1) := by decide +kernel
theorem dX4_init_87 : decode cX4_init 87 = .ok (.invokespecial 50, 3) := by decide +kernel
theorem dX4_init_90 : decode cX4_init 90 = .ok (.aastore, 1) := by decide +kernel
theorem dX4_init_91 : decode cX4_init 91 = .ok (.iinc 1 1, 3) := by decide +kernel
theorem dX4_init_94 : decode cX4_init 94 = .ok (.goto (-25), 3) := by decide +kernel
theorem dX4_init_97 : decode cX4_init 97 = .ok (.iconst 0, 1) := by decide +kernel
theorem dX4_init_98 : decode cX4_init 98 = .ok (.istore_n 1, 1) := by decide +kernel
theorem dX4_init_99 : decode cX4_init 99 = .ok (.iload_n 1, 1) := by decide +kernel
theorem dX4_init_100 : decode cX4_init 100 = .ok (.aload_n 0, 1) := by decide +kernel
theorem dX4_init_101 : decode cX4_init 101 = .ok (.getfield 17, 3) := by decide +kernel
theorem dX4_init_104 : decode cX4_init 104 = .ok (.arraylength, 1) := by decide +kernel
theorem dX4_init_105 : decode cX4_init 105 = .ok (.if_icmp .ge 22, 3) := by decide +kernel
theorem dX4_init_108 : decode cX4_init 108 = .ok (.aload_n 0, 1) := by decide +kernel
theorem dX4_init_109 : decode cX4_init 109 = .ok (.getfield 17, 3) := by decide +kernel
theorem dX4_init_112 : decode cX4_init 112 = .ok (.iload_n 1, 1) := by decide +kernel
theorem dX4_init_113 : decode cX4_init 113 = .ok (.new 15, 3) := by decide +kernel
theorem dX4_init_116 : decode cX4_init 116 = .ok (.dup, 1) := by decide +kernel
theorem dX4_init_117 : decode cX4_init 117 = .ok (.invokespecial 51, 3) := by decide +kernel
theorem dX4_init_120 : decode cX4_init 120 = .ok (.aastore, 1) := by decide +kernel
theorem dX4_init_121 : decode cX4_init 121 = .ok (.iinc 1 1, 3) := by decide +kernel
theorem dX4_init_124 : decode cX4_init 124 = .ok (.goto (-25), 3) := by decide +kernel
theorem dX4_init_127 : decode cX4_init 127 = .ok (.return_, 1) := by decide +kernel
theorem dX4_addPair_0 : decode cX4_addPair 0 = .ok (.aload_n 0, 1) := by decide +kernel
theorem dX4_addPair_1 : decode cX4_addPair 1 = .ok (.iload_n 1, 1) := by decide +kernel
theorem dX4_addPair_2 : decode cX4_addPair 2 = .ok (.invokevirtual 52, 3) := by decide +kernel
theorem dX4_addPair_5 : decode cX4_addPair 5 = .ok (.astore 4, 2) := by decide +kernel
theorem dX4_addPair_7 : decode cX4_addPair 7 = .ok (.iload_n 2, 1) := by decide +kernel
theorem dX4_addPair_8 : decode cX4_addPair 8 = .ok (.invokestatic 56, 3) := by decide +kernel
theorem dX4_addPair_11 : decode cX4_addPair 11 = .ok (.ifCond .eq 14, 3) := by decide +kernel
theorem dX4_addPair_14 : decode cX4_addPair 14 = .ok (.iload_n 3, 1) := by decide +kernel
theorem dX4_addPair_15 : decode cX4_addPair 15 = .ok (.invokestatic 56, 3) := by decide +kernel
theorem dX4_addPair_18 : decode cX4_addPair 18 = .ok (.ifCond .eq 7, 3) := by decide +kernel
theorem dX4_addPair_21 : decode cX4_addPair 21 = .ok (.iconst 1, 1) := by decide +kernel
theorem dX4_addPair_22 : decode cX4_addPair 22 = .ok (.goto 4, 3) := by decide +kernel
theorem dX4_addPair_25 : decode cX4_addPair 25 = .ok (.iconst 0, 1) := by decide +kernel
theorem dX4_addPair_26 : decode cX4_addPair 26 = .ok (.invokestatic 60, 3) := by decide +kernel
theorem dX4_addPair_29 : decode cX4_addPair 29 = .ok (.aload 4, 2) := by decide +kernel
theorem dX4_addPair_31 : decode cX4_addPair 31 = .ok (.iload_n 2, 1) := by decide +kernel
theorem dX4_addPair_32 : decode cX4_addPair 32 = .ok (.iload_n 3, 1) := by decide +kernel
theorem dX4_addPair_33 : decode cX4_addPair 33 = .ok (.invokevirtual 64, 3) := by decide +kernel
theorem dX4_addPair_36 : decode cX4_addPair 36 = .ok (.invokestatic 60, 3) := by decide +kernel
theorem dX4_addPair_39 : decode cX4_addPair 39 = .ok (.aload 4, 2) := by decide +kernel
theorem dX4_addPair_41 : decode cX4_addPair 41 = .ok (.iload_n 2, 1) := by decide +kernel
theorem dX4_addPair_42 : decode cX4_addPair 42 = .ok (.iload_n 3, 1) := by decide +kernel
theorem dX4_addPair_43 : decode cX4_addPair 43 = .ok (.invokevirtual 68, 3) := by decide +kernel
theorem dX4_addPair_46 : decode cX4_addPair 46 = .ok (.aload 4, 2) := by decide +kernel
theorem dX4_addPair_48 : decode cX4_addPair 48 = .ok (.getfield 72, 3) := by decide +kernel
theorem dX4_addPair_51 : decode cX4_addPair 51 = .ok (.ireturn, 1) := by decide +kernel
theorem dX4_forgetPairs_0 : decode cX4_forgetPairs 0 = .ok (.aload_n 0, 1) := by decide +kernel
theorem dX4_forgetPairs_1 : decode cX4_forgetPairs 1 = .ok (.iload_n 1, 1) := by decide +kernel
theorem dX4_forgetPairs_2 : decode cX4_forgetPairs 2 = .ok (.invokevirtual 52, 3) := by decide +kernel
theorem dX4_forgetPairs_5 : decode cX4_forgetPairs 5 = .ok (.astore_n 2, 1) := by decide +kernel
theorem dX4_forgetPairs_6 : decode cX4_forgetPairs 6 = .ok (.aload_n 2, 1) := by decide +kernel
theorem dX4_forgetPairs_7 : decode cX4_forgetPairs 7 = .ok (.getfield 72, 3) := by decide +kernel
theorem dX4_forgetPairs_10 : decode cX4_forgetPairs 10 = .ok (.istore_n 3, 1) := by decide +kernel
theorem dX4_forgetPairs_11 : decode cX4_forgetPairs 11 = .ok (.aload_n 2, 1) := by decide +kernel
theorem dX4_forgetPairs_12 : decode cX4_forgetPairs 12 = .ok (.iconst 0, 1) := by decide +kernel
theorem dX4_forgetPairs_13 : decode cX4_forgetPairs 13 = .ok (.putfield 72, 3) := by decide +kernel
theorem dX4_forgetPairs_16 : decode cX4_forgetPairs 16 = .ok (.iload_n 3, 1) := by decide +kernel
theorem dX4_forgetPairs_17 : decode cX4_forgetPairs 17 = .ok (.ireturn, 1) := by decide +kernel
theorem dX4_correctedTime_0 : decode cX4_correctedTime 0 = .ok (.aload_n 0, 1) := by decide +kernel
theorem dX4_correctedTime_1 : decode cX4_correctedTime 1 = .ok (.iload_n 1, 1) := by decide +kernel
theorem dX4_correctedTime_2 : decode cX4_correctedTime 2 = .ok (.invokevirtual 52, 3) := by decide +kernel
theorem dX4_correctedTime_5 : decode cX4_correctedTime 5 = .ok (.astore_n 3, 1) := by decide +kernel
theorem dX4_correctedTime_6 : decode cX4_correctedTime 6 = .ok (.iload_n 2, 1) := by decide +kernel
theorem dX4_correctedTime_7 : decode cX4_correctedTime 7 = .ok (.invokestatic 56, 3) := by decide +kernel
theorem dX4_correctedTime_10 : decode cX4_correctedTime 10 = .ok (.invokestatic 60, 3) := by decide +kernel
theorem dX4_correctedTime_13 : decode cX4_correctedTime 13 = .ok (.aload_n 3, 1) := by decide +kernel
theorem dX4_correctedTime_14 : decode cX4_correctedTime 14 = .ok (.iload_n 2, 1) := by decide +kernel
theorem dX4_correctedTime_15 : decode cX4_correctedTime 15 = .ok (.invokevirtual 75, 3) := by decide +kernel
theorem dX4_correctedTime_18 : decode cX4_correctedTime 18 = .ok (.ireturn, 1) := by decide +kernel
theorem dX4_clockOf_0 : decode cX4_clockOf 0 = .ok (.iload_n 1, 1) := by decide +kernel
theorem dX4_clockOf_1 : decode cX4_clockOf 1 = .ok (.ifCond .lt 12, 3) := by decide +kernel
theorem dX4_clockOf_4 : decode cX4_clockOf 4 = .ok (.iload_n 1, 1) := by decide +kernel
theorem dX4_clockOf_5 : decode cX4_clockOf 5 = .ok (.aload_n 0, 1) := by decide +kernel
theorem dX4_clockOf_6 : decode cX4_clockOf 6 = .ok (.getfield 11, 3) := by decide +kernel
theorem dX4_clockOf_9 : decode cX4_clockOf 9 = .ok (.arraylength, 1) := by decide +kernel
theorem dX4_clockOf_10 : decode cX4_clockOf 10 = .ok (.if_icmp .lt 13, 3) := by decide +kernel
theorem dX4_clockOf_13 : decode cX4_clockOf 13 = .ok (.new 79, 3) := by decide +kernel
theorem dX4_clockOf_16 : decode cX4_clockOf 16 = .ok (.dup, 1) := by decide +kernel
theorem dX4_clockOf_17 : decode cX4_clockOf 17 = .ok (.ldc 81, 2) := by decide +kernel
theorem dX4_clockOf_19 : decode cX4_clockOf 19 = .ok (.invokespecial 83, 3) := by decide +kernel
theorem dX4_clockOf_22 : decode cX4_clockOf 22 = .ok (.athrow, 1) := by decide +kernel
theorem dX4_clockOf_23 : decode cX4_clockOf 23 = .ok (.aload_n 0, 1) := by decide +kernel
theorem dX4_clockOf_24 : decode cX4_clockOf 24 = .ok (.getfield 11, 3) := by decide +kernel
theorem dX4_clockOf_27 : decode cX4_clockOf 27 = .ok (.iload_n 1, 1) := by decide +kernel
theorem dX4_clockOf_28 : decode cX4_clockOf 28 = .ok (.aaload, 1) := by decide +kernel
theorem dX4_clockOf_29 : decode cX4_clockOf 29 = .ok (.areturn, 1) := by decide +kernel
theorem dX4_setGate_0 : decode cX4_setGate 0 = .ok (.iload_n 1, 1) := by decide +kernel
theorem dX4_setGate_1 : decode cX4_setGate 1 = .ok (.iconst 1, 1) := by decide +kernel
theorem dX4_setGate_2 : decode cX4_setGate 2 = .ok (.sipush 500, 3) := by decide +kernel
theorem dX4_setGate_5 : decode cX4_setGate 5 = .ok (.invokestatic 86, 3) := by decide +kernel
theorem dX4_setGate_8 : decode cX4_setGate 8 = .ok (.invokestatic 60, 3) := by decide +kernel
theorem dX4_setGate_11 : decode cX4_setGate 11 = .ok (.aload_n 0, 1) := by decide +kernel
theorem dX4_setGate_12 : decode cX4_setGate 12 = .ok (.getfield 34, 3) := by decide +kernel
theorem dX4_setGate_15 : decode cX4_setGate 15 = .ok (.istore_n 2, 1) := by decide +kernel
theorem dX4_setGate_16 : decode cX4_setGate 16 = .ok (.aload_n 0, 1) := by decide +kernel
theorem dX4_setGate_17 : decode cX4_setGate 17 = .ok (.iload_n 1, 1) := by decide +kernel
theorem dX4_setGate_18 : decode cX4_setGate 18 = .ok (.putfield 34, 3) := by decide +kernel
theorem dX4_setGate_21 : decode cX4_setGate 21 = .ok (.iload_n 2, 1) := by decide +kernel
theorem dX4_setGate_22 : decode cX4_setGate 22 = .ok (.ireturn, 1) := by decide +kernel
theorem dX4_setFilter_0 : decode cX4_setFilter 0 = .ok (.iload_n 1, 1) := by decide +kernel
theorem dX4_setFilter_1 : decode cX4_setFilter 1 = .ok (.iconst 1, 1) := by decide +kernel
theorem dX4_setFilter_2 : decode cX4_setFilter 2 = .ok (.bipush 16, 2) := by decide +kernel
theorem dX4_setFilter_4 : decode cX4_setFilter 4 = .ok (.invokestatic 86, 3) := by decide +kernel
theorem dX4_setFilter_7 : decode cX4_setFilter 7 = .ok (.ifCond .eq 17, 3) := by decide +kernel
theorem dX4_setFilter_10 : decode cX4_setFilter 10 = .ok (.iload_n 2, 1) := by decide +kernel
theorem dX4_setFilter_11 : decode cX4_setFilter 11 = .ok (.iconst 0, 1) := by decide +kernel
theorem dX4_setFilter_12 : decode cX4_setFilter 12 = .ok (.bipush 16, 2) := by decide +kernel
theorem dX4_setFilter_14 : decode cX4_setFilter 14 = .ok (.invokestatic 86, 3) := by decide +kernel
theorem dX4_setFilter_17 : decode cX4_setFilter 17 = .ok (.ifCond .eq 7, 3) := by decide +kernel
theorem dX4_setFilter_20 : decode cX4_setFilter 20 = .ok (.iconst 1, 1) := by decide +kernel
theorem dX4_setFilter_21 : decode cX4_setFilter 21 = .ok (.goto 4, 3) := by decide +kernel
theorem dX4_setFilter_24 : decode cX4_setFilter 24 = .ok (.iconst 0, 1) := by decide +kernel
theorem dX4_setFilter_25 : decode cX4_setFilter 25 = .ok (.invokestatic 60, 3) := by decide +kernel
theorem dX4_setFilter_28 : decode cX4_setFilter 28 = .ok (.bipush 100, 2) := by decide +kernel
theorem dX4_setFilter_30 : decode cX4_setFilter 30 = .ok (.aload_n 0, 1) := by decide +kernel
theorem dX4_setFilter_31 : decode cX4_setFilter 31 = .ok (.getfield 38, 3) := by decide +kernel
theorem dX4_setFilter_34 : decode cX4_setFilter 34 = .ok (.imul, 1) := by decide +kernel
theorem dX4_setFilter_35 : decode cX4_setFilter 35 = .ok (.aload_n 0, 1) := by decide +kernel
theorem dX4_setFilter_36 : decode cX4_setFilter 36 = .ok (.getfield 41, 3) := by decide +kernel
theorem dX4_setFilter_39 : decode cX4_setFilter 39 = .ok (.iadd, 1) := by decide +kernel
theorem dX4_setFilter_40 : decode cX4_setFilter 40 = .ok (.istore_n 3, 1) := by decide +kernel
theorem dX4_setFilter_41 : decode cX4_setFilter 41 = .ok (.aload_n 0, 1) := by decide +kernel
theorem dX4_setFilter_42 : decode cX4_setFilter 42 = .ok (.iload_n 1, 1) := by decide +kernel
theorem dX4_setFilter_43 : decode cX4_setFilter 43 = .ok (.putfield 38, 3) := by decide +kernel
theorem dX4_setFilter_46 : decode cX4_setFilter 46 = .ok (.aload_n 0, 1) := by decide +kernel
theorem dX4_setFilter_47 : decode cX4_setFilter 47 = .ok (.iload_n 2, 1) := by decide +kernel
theorem dX4_setFilter_48 : decode cX4_setFilter 48 = .ok (.putfield 41, 3) := by decide +kernel
theorem dX4_setFilter_51 : decode cX4_setFilter 51 = .ok (.iload_n 3, 1) := by decide +kernel
theorem dX4_setFilter_52 : decode cX4_setFilter 52 = .ok (.ireturn, 1) := by decide +kernel
theorem dX4_setLimit_0 : decode cX4_setLimit 0 = .ok (.iload_n 1, 1) := by decide +kernel
theorem dX4_setLimit_1 : decode cX4_setLimit 1 = .ok (.iconst 1, 1) := by decide +kernel
theorem dX4_setLimit_2 : decode cX4_setLimit 2 = .ok (.bipush 9, 2) := by decide +kernel
theorem dX4_setLimit_4 : decode cX4_setLimit 4 = .ok (.invokestatic 86, 3) := by decide +kernel
theorem dX4_setLimit_7 : decode cX4_setLimit 7 = .ok (.invokestatic 60, 3) := by decide +kernel
theorem dX4_setLimit_10 : decode cX4_setLimit 10 = .ok (.aload_n 0, 1) := by decide +kernel
theorem dX4_setLimit_11 : decode cX4_setLimit 11 = .ok (.getfield 44, 3) := by decide +kernel
theorem dX4_setLimit_14 : decode cX4_setLimit 14 = .ok (.istore_n 2, 1) := by decide +kernel
theorem dX4_setLimit_15 : decode cX4_setLimit 15 = .ok (.aload_n 0, 1) := by decide +kernel
theorem dX4_setLimit_16 : decode cX4_setLimit 16 = .ok (.iload_n 1, 1) := by decide +kernel
theorem dX4_setLimit_17 : decode cX4_setLimit 17 = .ok (.putfield 44, 3) := by decide +kernel
theorem dX4_setLimit_20 : decode cX4_setLimit 20 = .ok (.iload_n 2, 1) := by decide +kernel
theorem dX4_setLimit_21 : decode cX4_setLimit 21 = .ok (.ireturn, 1) := by decide +kernel
theorem dX4_setNearness_0 : decode cX4_setNearness 0 = .ok (.iload_n 1, 1) := by decide +kernel
theorem dX4_setNearness_1 : decode cX4_setNearness 1 = .ok (.iconst 0, 1) := by decide +kernel
theorem dX4_setNearness_2 : decode cX4_setNearness 2 = .ok (.bipush 100, 2) := by decide +kernel
theorem dX4_setNearness_4 : decode cX4_setNearness 4 = .ok (.invokestatic 86, 3) := by decide +kernel
theorem dX4_setNearness_7 : decode cX4_setNearness 7 = .ok (.invokestatic 60, 3) := by decide +kernel
theorem dX4_setNearness_10 : decode cX4_setNearness 10 = .ok (.aload_n 0, 1) := by decide +kernel
theorem dX4_setNearness_11 : decode cX4_setNearness 11 = .ok (.getfield 47, 3) := by decide +kernel
theorem dX4_setNearness_14 : decode cX4_setNearness 14 = .ok (.istore_n 2, 1) := by decide +kernel
theorem dX4_setNearness_15 : decode cX4_setNearness 15 = .ok (.aload_n 0, 1) := by decide +kernel
theorem dX4_setNearness_16 : decode cX4_setNearness 16 = .ok (.iload_n 1, 1) := by decide +kernel
theorem dX4_setNearness_17 : decode cX4_setNearness 17 = .ok (.putfield 47, 3) := by decide +kernel
theorem dX4_setNearness_20 : decode cX4_setNearness 20 = .ok (.iload_n 2, 1) := by decide +kernel
theorem dX4_setNearness_21 : decode cX4_setNearness 21 = .ok (.ireturn, 1) := by decide +kernel
theorem dX4_report_0 : decode cX4_report 0 = .ok (.aload_n 0, 1) := by decide +kernel
theorem dX4_report_1 : decode cX4_report 1 = .ok (.iload_n 1, 1) := by decide +kernel
theorem dX4_report_2 : decode cX4_report 2 = .ok (.invokevirtual 52, 3) := by decide +kernel
theorem dX4_report_5 : decode cX4_report 5 = .ok (.astore 5, 2) := by decide +kernel
theorem dX4_report_7 : decode cX4_report 7 = .ok (.iload_n 2, 1) := by decide +kernel
theorem dX4_report_8 : decode cX4_report 8 = .ok (.invokestatic 56, 3) := by decide +kernel
theorem dX4_report_11 : decode cX4_report 11 = .ok (.ifCond .eq 22, 3) := by decide +kernel
theorem dX4_report_14 : decode cX4_report 14 = .ok (.iload_n 3, 1) := by decide +kernel
theorem dX4_report_15 : decode cX4_report 15 = .ok (.invokestatic 90, 3) := by decide +kernel
theorem dX4_report_18 : decode cX4_report 18 = .ok (.ifCond .eq 15, 3) := by decide +kernel
theorem dX4_report_21 : decode cX4_report 21 = .ok (.iload 4, 2) := by decide +kernel
theorem dX4_report_23 : decode cX4_report 23 = .ok (.invokestatic 90, 3) := by decide +kernel
theorem dX4_report_26 : decode cX4_report 26 = .ok (.ifCond .eq 7, 3) := by decide +kernel
theorem dX4_report_29 : decode cX4_report 29 = .ok (.iconst 1, 1) := by decide +kernel
theorem dX4_report_30 : decode cX4_report 30 = .ok (.goto 4, 3) := by decide +kernel
theorem dX4_report_33 : decode cX4_report 33 = .ok (.iconst 0, 1) := by decide +kernel
theorem dX4_report_34 : decode cX4_report 34 = .ok (.invokestatic 60, 3) := by decide +kernel
theorem dX4_report_37 : decode cX4_report 37 = .ok (.aload_n 0, 1) := by decide +kernel
theorem dX4_report_38 : decode cX4_report 38 = .ok (.getfield 93, 3) := by decide +kernel
theorem dX4_report_41 : decode cX4_report 41 = .ok (.ifCond .lt 15, 3) := by decide +kernel
theorem dX4_report_44 : decode cX4_report 44 = .ok (.aload_n 0, 1) := by decide +kernel
theorem dX4_report_45 : decode cX4_report 45 = .ok (.getfield 93, 3) := by decide +kernel
theorem dX4_report_48 : decode cX4_report 48 = .ok (.aload_n 0, 1) := by decide +kernel
theorem dX4_report_49 : decode cX4_report 49 = .ok (.getfield 17, 3) := by decide +kernel
theorem dX4_report_52 : decode cX4_report 52 = .ok (.arraylength, 1) := by decide +kernel
theorem dX4_report_53 : decode cX4_report 53 = .ok (.if_icmp .lt 13, 3) := by decide +kernel
theorem dX4_report_56 : decode cX4_report 56 = .ok (.new 96, 3) := by decide +kernel
theorem dX4_report_59 : decode cX4_report 59 = .ok (.dup, 1) := by decide +kernel
theorem dX4_report_60 : decode cX4_report 60 = .ok (.ldc 98, 2) := by decide +kernel
theorem dX4_report_62 : decode cX4_report 62 = .ok (.invokespecial 100, 3) := by decide +kernel
theorem dX4_report_65 : decode cX4_report 65 = .ok (.athrow, 1) := by decide +kernel
theorem dX4_report_66 : decode cX4_report 66 = .ok (.aload_n 0, 1) := by decide +kernel
theorem dX4_report_67 : decode cX4_report 67 = .ok (.getfield 93, 3) := by decide +kernel
theorem dX4_report_70 : decode cX4_report 70 = .ok (.istore 6, 2) := by decide +kernel
theorem dX4_report_72 : decode cX4_report 72 = .ok (.aload_n 0, 1) := by decide +kernel
theorem dX4_report_73 : decode cX4_report 73 = .ok (.getfield 17, 3) := by decide +kernel
theorem dX4_report_76 : decode cX4_report 76 = .ok (.iload 6, 2) := by decide +kernel
theorem dX4_report_78 : decode cX4_report 78 = .ok (.aaload, 1) := by decide +kernel
theorem dX4_report_79 : decode cX4_report 79 = .ok (.aload 5, 2) := by decide +kernel
theorem dX4_report_81 : decode cX4_report 81 = .ok (.iload_n 2, 1) := by decide +kernel
theorem dX4_report_82 : decode cX4_report 82 = .ok (.invokevirtual 75, 3) := by decide +kernel
theorem dX4_report_85 : decode cX4_report 85 = .ok (.iload_n 3, 1) := by decide +kernel
theorem dX4_report_86 : decode cX4_report 86 = .ok (.iload 4, 2) := by decide +kernel
theorem dX4_report_88 : decode cX4_report 88 = .ok (.invokevirtual 101, 3) := by decide +kernel
theorem dX4_report_91 : decode cX4_report 91 = .ok (.aload_n 0, 1) := by decide +kernel
theorem dX4_report_92 : decode cX4_report 92 = .ok (.iload 6, 2) := by decide +kernel
theorem dX4_report_94 : decode cX4_report 94 = .ok (.iconst 1, 1) := by decide +kernel
theorem dX4_report_95 : decode cX4_report 95 = .ok (.iadd, 1) := by decide +kernel
theorem dX4_report_96 : decode cX4_report 96 = .ok (.putfield 93, 3) := by decide +kernel
theorem dX4_report_99 : decode cX4_report 99 = .ok (.iload 6, 2) := by decide +kernel
theorem dX4_report_101 : decode cX4_report 101 = .ok (.ireturn, 1) := by decide +kernel
theorem dX4_clearBatch_0 : decode cX4_clearBatch 0 = .ok (.aload_n 0, 1) := by decide +kernel
theorem dX4_clearBatch_1 : decode cX4_clearBatch 1 = .ok (.getfield 93, 3) := by decide +kernel
theorem dX4_clearBatch_4 : decode cX4_clearBatch 4 = .ok (.istore_n 1, 1) := by decide +kernel
theorem dX4_clearBatch_5 : decode cX4_clearBatch 5 = .ok (.aload_n 0, 1) := by decide +kernel
theorem dX4_clearBatch_6 : decode cX4_clearBatch 6 = .ok (.iconst 0, 1) := by decide +kernel
theorem dX4_clearBatch_7 : decode cX4_clearBatch 7 = .ok (.putfield 93, 3) := by decide +kernel
theorem dX4_clearBatch_10 : decode cX4_clearBatch 10 = .ok (.iload_n 1, 1) := by decide +kernel
theorem dX4_clearBatch_11 : decode cX4_clearBatch 11 = .ok (.ireturn, 1) := by decide +kernel
theorem dX4_process_0 : decode cX4_process 0 = .ok (.aload_n 0, 1) := by decide +kernel
theorem dX4_process_1 : decode cX4_process 1 = .ok (.getfield 93, 3) := by decide +kernel
theorem dX4_process_4 : decode cX4_process 4 = .ok (.ifCond .ne 13, 3) := by decide +kernel
theorem dX4_process_7 : decode cX4_process 7 = .ok (.new 96, 3) := by decide +kernel
theorem dX4_process_10 : decode cX4_process 10 = .ok (.dup, 1) := by decide +kernel
theorem dX4_process_11 : decode cX4_process 11 = .ok (.ldc 105, 2) := by decide +kernel
theorem dX4_process_13 : decode cX4_process 13 = .ok (.invokespecial 100, 3) := by decide +kernel
theorem dX4_process_16 : decode cX4_process 16 = .ok (.athrow, 1) := by decide +kernel
theorem dX4_process_17 : decode cX4_process 17 = .ok (.aload_n 0, 1) := by decide +kernel
theorem dX4_process_18 : decode cX4_process 18 = .ok (.invokevirtual 107, 3) := by decide +kernel
theorem dX4_process_21 : decode cX4_process 21 = .ok (.aload_n 0, 1) := by decide +kernel
theorem dX4_process_22 : decode cX4_process 22 = .ok (.invokevirtual 110, 3) := by decide +kernel
theorem dX4_process_25 : decode cX4_process 25 = .ok (.istore_n 1, 1) := by decide +kernel
theorem dX4_process_26 : decode cX4_process 26 = .ok (.aload_n 0, 1) := by decide +kernel
theorem dX4_process_27 : decode cX4_process 27 = .ok (.invokevirtual 114, 3) := by decide +kernel
theorem dX4_process_30 : decode cX4_process 30 = .ok (.aload_n 0, 1) := by decide +kernel
theorem dX4_process_31 : decode cX4_process 31 = .ok (.invokevirtual 117, 3) := by decide +kernel
theorem dX4_process_34 : decode cX4_process 34 = .ok (.aload_n 0, 1) := by decide +kernel
theorem dX4_process_35 : decode cX4_process 35 = .ok (.invokevirtual 120, 3) := by decide +kernel
theorem dX4_process_38 : decode cX4_process 38 = .ok (.aload_n 0, 1) := by decide +kernel
theorem dX4_process_39 : decode cX4_process 39 = .ok (.dup, 1) := by decide +kernel
theorem dX4_process_40 : decode cX4_process 40 = .ok (.getfield 123, 3) := by decide +kernel
theorem dX4_process_43 : decode cX4_process 43 = .ok (.aload_n 0, 1) := by decide +kernel
theorem dX4_process_44 : decode cX4_process 44 = .ok (.getfield 93, 3) := by decide +kernel
theorem dX4_process_47 : decode cX4_process 47 = .ok (.iadd, 1) := by decide +kernel
theorem dX4_process_48 : decode cX4_process 48 = .ok (.putfield 123, 3) := by decide +kernel
theorem dX4_process_51 : decode cX4_process 51 = .ok (.aload_n 0, 1) := by decide +kernel
theorem dX4_process_52 : decode cX4_process 52 = .ok (.iconst 0, 1) := by decide +kernel
theorem dX4_process_53 : decode cX4_process 53 = .ok (.putfield 93, 3) := by decide +kernel
theorem dX4_process_56 : decode cX4_process 56 = .ok (.iload_n 1, 1) := by decide +kernel
theorem dX4_process_57 : decode cX4_process 57 = .ok (.ireturn, 1) := by decide +kernel
theorem dX4_batch_0 : decode cX4_batch 0 = .ok (.aload_n 0, 1) := by decide +kernel
theorem dX4_batch_1 : decode cX4_batch 1 = .ok (.getfield 93, 3) := by decide +kernel
theorem dX4_batch_4 : decode cX4_batch 4 = .ok (.ireturn, 1) := by decide +kernel
theorem dX4_distance_0 : decode cX4_distance 0 = .ok (.aload_n 0, 1) := by decide +kernel
theorem dX4_distance_1 : decode cX4_distance 1 = .ok (.iload_n 1, 1) := by decide +kernel
theorem dX4_distance_2 : decode cX4_distance 2 = .ok (.invokevirtual 126, 3) := by decide +kernel
theorem dX4_distance_5 : decode cX4_distance 5 = .ok (.astore_n 3, 1) := by decide +kernel
theorem dX4_distance_6 : decode cX4_distance 6 = .ok (.aload_n 0, 1) := by decide +kernel
theorem dX4_distance_7 : decode cX4_distance 7 = .ok (.iload_n 2, 1) := by decide +kernel
theorem dX4_distance_8 : decode cX4_distance 8 = .ok (.invokevirtual 130, 3) := by decide +kernel
theorem dX4_distance_11 : decode cX4_distance 11 = .ok (.aload_n 3, 1) := by decide +kernel
theorem dX4_distance_12 : decode cX4_distance 12 = .ok (.invokevirtual 134, 3) := by decide +kernel
theorem dX4_distance_15 : decode cX4_distance 15 = .ok (.lreturn, 1) := by decide +kernel
theorem dX4_canTake_0 : decode cX4_canTake 0 = .ok (.aload_n 0, 1) := by decide +kernel
theorem dX4_canTake_1 : decode cX4_canTake 1 = .ok (.iload_n 1, 1) := by decide +kernel
theorem dX4_canTake_2 : decode cX4_canTake 2 = .ok (.invokevirtual 126, 3) := by decide +kernel
theorem dX4_canTake_5 : decode cX4_canTake 5 = .ok (.astore_n 3, 1) := by decide +kernel
theorem dX4_canTake_6 : decode cX4_canTake 6 = .ok (.aload_n 0, 1) := by decide +kernel
theorem dX4_canTake_7 : decode cX4_canTake 7 = .ok (.aload_n 3, 1) := by decide +kernel
theorem dX4_canTake_8 : decode cX4_canTake 8 = .ok (.aload_n 0, 1) := by decide +kernel
theorem dX4_canTake_9 : decode cX4_canTake 9 = .ok (.iload_n 2, 1) := by decide +kernel
theorem dX4_canTake_10 : decode cX4_canTake 10 = .ok (.invokevirtual 130, 3) := by decide +kernel
theorem dX4_canTake_13 : decode cX4_canTake 13 = .ok (.invokevirtual 138, 3) := by decide +kernel
theorem dX4_canTake_16 : decode cX4_canTake 16 = .ok (.ldc2_w 142, 3) := by decide +kernel
theorem dX4_canTake_19 : decode cX4_canTake 19 = .ok (.lcmp, 1) := by decide +kernel
theorem dX4_canTake_20 : decode cX4_canTake 20 = .ok (.ifCond .eq 7, 3) := by decide +kernel
theorem dX4_canTake_23 : decode cX4_canTake 23 = .ok (.iconst 1, 1) := by decide +kernel
theorem dX4_canTake_24 : decode cX4_canTake 24 = .ok (.goto 4, 3) := by decide +kernel
theorem dX4_canTake_27 : decode cX4_canTake 27 = .ok (.iconst 0, 1) := by decide +kernel
theorem dX4_canTake_28 : decode cX4_canTake 28 = .ok (.ireturn, 1) := by decide +kernel
theorem dX4_bestCost_0 : decode cX4_bestCost 0 = .ok (.aload_n 0, 1) := by decide +kernel
theorem dX4_bestCost_1 : decode cX4_bestCost 1 = .ok (.invokevirtual 107, 3) := by decide +kernel
theorem dX4_bestCost_4 : decode cX4_bestCost 4 = .ok (.aload_n 0, 1) := by decide +kernel
theorem dX4_bestCost_5 : decode cX4_bestCost 5 = .ok (.getfield 30, 3) := by decide +kernel
theorem dX4_bestCost_8 : decode cX4_bestCost 8 = .ok (.getfield 144, 3) := by decide +kernel
theorem dX4_bestCost_11 : decode cX4_bestCost 11 = .ok (.lreturn, 1) := by decide +kernel
theorem dX4_bestCostByTrying_0 : decode cX4_bestCostByTrying 0 = .ok (.aload_n 0, 1) := by decide +kernel
theorem dX4_bestCostByTrying_1 : decode cX4_bestCostByTrying 1 = .ok (.invokevirtual 148, 3) := by decide +kernel
theorem dX4_bestCostByTrying_4 : decode cX4_bestCostByTrying 4 = .ok (.aload_n 0, 1) := by decide +kernel
theorem dX4_bestCostByTrying_5 : decode cX4_bestCostByTrying 5 = .ok (.getfield 30, 3) := by decide +kernel
theorem dX4_bestCostByTrying_8 : decode cX4_bestCostByTrying 8 = .ok (.iconst 0, 1) := by decide +kernel
theorem dX4_bestCostByTrying_9 : decode cX4_bestCostByTrying 9 = .ok (.iconst 0, 1) := by decide +kernel
theorem dX4_bestCostByTrying_10 : decode cX4_bestCostByTrying 10 = .ok (.invokestatic 151, 3) := by decide +kernel
theorem dX4_bestCostByTrying_13 : decode cX4_bestCostByTrying 13 = .ok (.lreturn, 1) := by decide +kernel
theorem dX4_goesTo_0 : decode cX4_goesTo 0 = .ok (.aload_n 0, 1) := by decide +kernel
theorem dX4_goesTo_1 : decode cX4_goesTo 1 = .ok (.iload_n 1, 1) := by decide +kernel
theorem dX4_goesTo_2 : decode cX4_goesTo 2 = .ok (.invokevirtual 126, 3) := by decide +kernel
theorem dX4_goesTo_5 : decode cX4_goesTo 5 = .ok (.pop, 1) := by decide +kernel
theorem dX4_goesTo_6 : decode cX4_goesTo 6 = .ok (.aload_n 0, 1) := by decide +kernel
theorem dX4_goesTo_7 : decode cX4_goesTo 7 = .ok (.invokevirtual 107, 3) := by decide +kernel
theorem dX4_goesTo_10 : decode cX4_goesTo 10 = .ok (.aload_n 0, 1) := by decide +kernel
theorem dX4_goesTo_11 : decode cX4_goesTo 11 = .ok (.getfield 30, 3) := by decide +kernel
theorem dX4_goesTo_14 : decode cX4_goesTo 14 = .ok (.iload_n 1, 1) := by decide +kernel
theorem dX4_goesTo_15 : decode cX4_goesTo 15 = .ok (.invokevirtual 155, 3) := by decide +kernel
theorem dX4_goesTo_18 : decode cX4_goesTo 18 = .ok (.astore_n 2, 1) := by decide +kernel
theorem dX4_goesTo_19 : decode cX4_goesTo 19 = .ok (.aload_n 2, 1) := by decide +kernel
theorem dX4_goesTo_20 : decode cX4_goesTo 20 = .ok (.ifnonnull 7, 3) := by decide +kernel
theorem dX4_goesTo_23 : decode cX4_goesTo 23 = .ok (.iconst (-1), 1) := by decide +kernel
theorem dX4_goesTo_24 : decode cX4_goesTo 24 = .ok (.goto 7, 3) := by decide +kernel
theorem dX4_goesTo_27 : decode cX4_goesTo 27 = .ok (.aload_n 2, 1) := by decide +kernel
theorem dX4_goesTo_28 : decode cX4_goesTo 28 = .ok (.getfield 158, 3) := by decide +kernel
theorem dX4_goesTo_31 : decode cX4_goesTo 31 = .ok (.ireturn, 1) := by decide +kernel
theorem dX4_reportNumbered_0 : decode cX4_reportNumbered 0 = .ok (.iload_n 1, 1) := by decide +kernel
theorem dX4_reportNumbered_1 : decode cX4_reportNumbered 1 = .ok (.ifCond .lt 20, 3) := by decide +kernel
theorem dX4_reportNumbered_4 : decode cX4_reportNumbered 4 = .ok (.iload_n 1, 1) := by decide +kernel
theorem dX4_reportNumbered_5 : decode cX4_reportNumbered 5 = .ok (.aload_n 0, 1) := by decide +kernel
theorem dX4_reportNumbered_6 : decode cX4_reportNumbered 6 = .ok (.getfield 93, 3) := by decide +kernel
theorem dX4_reportNumbered_9 : decode cX4_reportNumbered 9 = .ok (.if_icmp .ge 12, 3) := by decide +kernel
theorem dX4_reportNumbered_12 : decode cX4_reportNumbered 12 = .ok (.iload_n 1, 1) := by decide +kernel
theorem dX4_reportNumbered_13 : decode cX4_reportNumbered 13 = .ok (.aload_n 0, 1) := by decide +kernel
theorem dX4_reportNumbered_14 : decode cX4_reportNumbered 14 = .ok (.getfield 17, 3) := by decide +kernel
theorem dX4_reportNumbered_17 : decode cX4_reportNumbered 17 = .ok (.arraylength, 1) := by decide +kernel
theorem dX4_reportNumbered_18 : decode cX4_reportNumbered 18 = .ok (.if_icmp .lt 13, 3) := by decide +kernel
theorem dX4_reportNumbered_21 : decode cX4_reportNumbered 21 = .ok (.new 79, 3) := by decide +kernel
theorem dX4_reportNumbered_24 : decode cX4_reportNumbered 24 = .ok (.dup, 1) := by decide +kernel
theorem dX4_reportNumbered_25 : decode cX4_reportNumbered 25 = .ok (.ldc 161, 2) := by decide +kernel
theorem dX4_reportNumbered_27 : decode cX4_reportNumbered 27 = .ok (.invokespecial 83, 3) := by decide +kernel
theorem dX4_reportNumbered_30 : decode cX4_reportNumbered 30 = .ok (.athrow, 1) := by decide +kernel
theorem dX4_reportNumbered_31 : decode cX4_reportNumbered 31 = .ok (.aload_n 0, 1) := by decide +kernel
theorem dX4_reportNumbered_32 : decode cX4_reportNumbered 32 = .ok (.getfield 17, 3) := by decide +kernel
theorem dX4_reportNumbered_35 : decode cX4_reportNumbered 35 = .ok (.iload_n 1, 1) := by decide +kernel
theorem dX4_reportNumbered_36 : decode cX4_reportNumbered 36 = .ok (.aaload, 1) := by decide +kernel
theorem dX4_reportNumbered_37 : decode cX4_reportNumbered 37 = .ok (.areturn, 1) := by decide +kernel
theorem dX4_costOfTaking_0 : decode cX4_costOfTaking 0 = .ok (.aload_n 1, 1) := by decide +kernel
theorem dX4_costOfTaking_1 : decode cX4_costOfTaking 1 = .ok (.getfield 163, 3) := by decide +kernel
theorem dX4_costOfTaking_4 : decode cX4_costOfTaking 4 = .ok (.aload_n 2, 1) := by decide +kernel
theorem dX4_costOfTaking_5 : decode cX4_costOfTaking 5 = .ok (.getfield 166, 3) := by decide +kernel
theorem dX4_costOfTaking_8 : decode cX4_costOfTaking 8 = .ok (.if_icmp .ge 7, 3) := by decide +kernel
theorem dX4_costOfTaking_11 : decode cX4_costOfTaking 11 = .ok (.ldc2_w 142, 3) := by decide +kernel
theorem dX4_costOfTaking_14 : decode cX4_costOfTaking 14 = .ok (.lreturn, 1) := by decide +kernel
theorem dX4_costOfTaking_15 : decode cX4_costOfTaking 15 = .ok (.aload_n 2, 1) := by decide +kernel
theorem dX4_costOfTaking_16 : decode cX4_costOfTaking 16 = .ok (.aload_n 1, 1) := by decide +kernel
theorem dX4_costOfTaking_17 : decode cX4_costOfTaking 17 = .ok (.invokevirtual 134, 3) := by decide +kernel
theorem dX4_costOfTaking_20 : decode cX4_costOfTaking 20 = .ok (.lstore_n 3, 1) := by decide +kernel
theorem dX4_costOfTaking_21 : decode cX4_costOfTaking 21 = .ok (.lload_n 3, 1) := by decide +kernel
theorem dX4_costOfTaking_22 : decode cX4_costOfTaking 22 = .ok (.aload_n 0, 1) := by decide +kernel
theorem dX4_costOfTaking_23 : decode cX4_costOfTaking 23 = .ok (.getfield 34, 3) := by decide +kernel
theorem dX4_costOfTaking_26 : decode cX4_costOfTaking 26 = .ok (.invokestatic 167, 3) := by decide +kernel
theorem dX4_costOfTaking_29 : decode cX4_costOfTaking 29 = .ok (.lcmp, 1) := by decide +kernel
theorem dX4_costOfTaking_30 : decode cX4_costOfTaking 30 = .ok (.ifCond .gt 7, 3) := by decide +kernel
theorem dX4_costOfTaking_33 : decode cX4_costOfTaking 33 = .ok (.lload_n 3, 1) := by decide +kernel
theorem dX4_costOfTaking_34 : decode cX4_costOfTaking 34 = .ok (.goto 6, 3) := by decide +kernel
theorem dX4_costOfTaking_37 : decode cX4_costOfTaking 37 = .ok (.ldc2_w 142, 3) := by decide +kernel
theorem dX4_costOfTaking_40 : decode cX4_costOfTaking 40 = .ok (.lreturn, 1) := by decide +kernel
theorem dX4_findBestMatching_0 : decode cX4_findBestMatching 0 = .ok (.aload_n 0, 1) := by decide +kernel
theorem dX4_findBestMatching_1 : decode cX4_findBestMatching 1 = .ok (.invokevirtual 148, 3) := by decide +kernel
theorem dX4_findBestMatching_4 : decode cX4_findBestMatching 4 = .ok (.aload_n 0, 1) := by decide +kernel
theorem dX4_findBestMatching_5 : decode cX4_findBestMatching 5 = .ok (.getfield 30, 3) := by decide +kernel
theorem dX4_findBestMatching_8 : decode cX4_findBestMatching 8 = .ok (.ldc2_w 171, 3) := by decide +kernel
theorem dX4_findBestMatching_11 : decode cX4_findBestMatching 11 = .ok (.putfield 144, 3) := by decide +kernel
theorem dX4_findBestMatching_14 : decode cX4_findBestMatching 14 = .ok (.aload_n 0, 1) := by decide +kernel
theorem dX4_findBestMatching_15 : decode cX4_findBestMatching 15 = .ok (.getfield 30, 3) := by decide +kernel
theorem dX4_findBestMatching_18 : decode cX4_findBestMatching 18 = .ok (.iconst 0, 1) := by decide +kernel
theorem dX4_findBestMatching_19 : decode cX4_findBestMatching 19 = .ok (.iconst 0, 1) := by decide +kernel
theorem dX4_findBestMatching_20 : decode cX4_findBestMatching 20 = .ok (.lconst 0, 1) := by decide +kernel
theorem dX4_findBestMatching_21 : decode cX4_findBestMatching 21 = .ok (.invokestatic 173, 3) := by decide +kernel
theorem dX4_findBestMatching_24 : decode cX4_findBestMatching 24 = .ok (.return_, 1) := by decide +kernel
theorem dX4_prepareMatching_0 : decode cX4_prepareMatching 0 = .ok (.aload_n 0, 1) := by decide +kernel
theorem dX4_prepareMatching_1 : decode cX4_prepareMatching 1 = .ok (.getfield 30, 3) := by decide +kernel
theorem dX4_prepareMatching_4 : decode cX4_prepareMatching 4 = .ok (.aload_n 0, 1) := by decide +kernel
theorem dX4_prepareMatching_5 : decode cX4_prepareMatching 5 = .ok (.getfield 34, 3) := by decide +kernel
theorem dX4_prepareMatching_8 : decode cX4_prepareMatching 8 = .ok (.invokestatic 167, 3) := by decide +kernel
theorem dX4_prepareMatching_11 : decode cX4_prepareMatching 11 = .ok (.invokevirtual 177, 3) := by decide +kernel
theorem dX4_prepareMatching_14 : decode cX4_prepareMatching 14 = .ok (.iconst 0, 1) := by decide +kernel
theorem dX4_prepareMatching_15 : decode cX4_prepareMatching 15 = .ok (.istore_n 1, 1) := by decide +kernel
theorem dX4_prepareMatching_16 : decode cX4_prepareMatching 16 = .ok (.iload_n 1, 1) := by decide +kernel
theorem dX4_prepareMatching_17 : decode cX4_prepareMatching 17 = .ok (.aload_n 0, 1) := by decide +kernel
theorem dX4_prepareMatching_18 : decode cX4_prepareMatching 18 = .ok (.getfield 181, 3) := by decide +kernel
theorem dX4_prepareMatching_21 : decode cX4_prepareMatching 21 = .ok (.if_icmp .ge 43, 3) := by decide +kernel
theorem dX4_prepareMatching_24 : decode cX4_prepareMatching 24 = .ok (.iload_n 1, 1) := by decide +kernel
theorem dX4_prepareMatching_25 : decode cX4_prepareMatching 25 = .ok (.aload_n 0, 1) := by decide +kernel
theorem dX4_prepareMatching_26 : decode cX4_prepareMatching 26 = .ok (.getfield 23, 3) := by decide +kernel
theorem dX4_prepareMatching_29 : decode cX4_prepareMatching 29 = .ok (.arraylength, 1) := by decide +kernel
theorem dX4_prepareMatching_30 : decode cX4_prepareMatching 30 = .ok (.if_icmp .ge 34, 3) := by decide +kernel
theorem dX4_prepareMatching_33 : decode cX4_prepareMatching 33 = .ok (.aload_n 0, 1) := by decide +kernel
theorem dX4_prepareMatching_34 : decode cX4_prepareMatching 34 = .ok (.getfield 23, 3) := by decide +kernel
theorem dX4_prepareMatching_37 : decode cX4_prepareMatching 37 = .ok (.iload_n 1, 1) := by decide +kernel
theorem dX4_prepareMatching_38 : decode cX4_prepareMatching 38 = .ok (.aaload, 1) := by decide +kernel
theorem dX4_prepareMatching_39 : decode cX4_prepareMatching 39 = .ok (.getfield 184, 3) := by decide +kernel
theorem dX4_prepareMatching_42 : decode cX4_prepareMatching 42 = .ok (.ifCond .eq 16, 3) := by decide +kernel
theorem dX4_prepareMatching_45 : decode cX4_prepareMatching 45 = .ok (.aload_n 0, 1) := by decide +kernel
theorem dX4_prepareMatching_46 : decode cX4_prepareMatching 46 = .ok (.getfield 30, 3) := by decide +kernel
theorem dX4_prepareMatching_49 : decode cX4_prepareMatching 49 = .ok (.aload_n 0, 1) := by decide +kernel
theorem dX4_prepareMatching_50 : decode cX4_prepareMatching 50 = .ok (.getfield 23, 3) := by decide +kernel
theorem dX4_prepareMatching_53 : decode cX4_prepareMatching 53 = .ok (.iload_n 1, 1) := by decide +kernel
theorem dX4_prepareMatching_54 : decode cX4_prepareMatching 54 = .ok (.aaload, 1) := by decide +kernel
theorem dX4_prepareMatching_55 : decode cX4_prepareMatching 55 = .ok (.invokevirtual 188, 3) := by decide +kernel
theorem dX4_prepareMatching_58 : decode cX4_prepareMatching 58 = .ok (.iinc 1 1, 3) := by decide +kernel
theorem dX4_prepareMatching_61 : decode cX4_prepareMatching 61 = .ok (.goto (-45), 3) := by decide +kernel
theorem dX4_prepareMatching_64 : decode cX4_prepareMatching 64 = .ok (.iconst 0, 1) := by decide +kernel
theorem dX4_prepareMatching_65 : decode cX4_prepareMatching 65 = .ok (.istore_n 1, 1) := by decide +kernel
theorem dX4_prepareMatching_66 : decode cX4_prepareMatching 66 = .ok (.iload_n 1, 1) := by decide +kernel
theorem dX4_prepareMatching_67 : decode cX4_prepareMatching 67 = .ok (.aload_n 0, 1) := by decide +kernel
theorem dX4_prepareMatching_68 : decode cX4_prepareMatching 68 = .ok (.getfield 93, 3) := by decide +kernel
theorem dX4_prepareMatching_71 : decode cX4_prepareMatching 71 = .ok (.if_icmp .ge 80, 3) := by decide +kernel
theorem dX4_prepareMatching_74 : decode cX4_prepareMatching 74 = .ok (.iload_n 1, 1) := by decide +kernel
theorem dX4_prepareMatching_75 : decode cX4_prepareMatching 75 = .ok (.aload_n 0, 1) := by decide +kernel
theorem dX4_prepareMatching_76 : decode cX4_prepareMatching 76 = .ok (.getfield 17, 3) := by decide +kernel
theorem dX4_prepareMatching_79 : decode cX4_prepareMatching 79 = .ok (.arraylength, 1) := by decide +kernel
theorem dX4_prepareMatching_80 : decode cX4_prepareMatching 80 = .ok (.if_icmp .ge 71, 3) := by decide +kernel
theorem dX4_prepareMatching_83 : decode cX4_prepareMatching 83 = .ok (.aload_n 0, 1) := by decide +kernel
theorem dX4_prepareMatching_84 : decode cX4_prepareMatching 84 = .ok (.getfield 30, 3) := by decide +kernel
theorem dX4_prepareMatching_87 : decode cX4_prepareMatching 87 = .ok (.invokevirtual 192, 3) := by decide +kernel
theorem dX4_prepareMatching_90 : decode cX4_prepareMatching 90 = .ok (.iconst 0, 1) := by decide +kernel
theorem dX4_prepareMatching_91 : decode cX4_prepareMatching 91 = .ok (.istore_n 2, 1) := by decide +kernel
theorem dX4_prepareMatching_92 : decode cX4_prepareMatching 92 = .ok (.iload_n 2, 1) := by decide +kernel
theorem dX4_prepareMatching_93 : decode cX4_prepareMatching 93 = .ok (.aload_n 0, 1) := by decide +kernel
theorem dX4_prepareMatching_94 : decode cX4_prepareMatching 94 = .ok (.getfield 30, 3) := by decide +kernel
theorem dX4_prepareMatching_97 : decode cX4_prepareMatching 97 = .ok (.getfield 195, 3) := by decide +kernel
theorem dX4_prepareMatching_100 : decode cX4_prepareMatching 100 = .ok (.if_icmp .ge 45, 3) := by decide +kernel
theorem dX4_prepareMatching_103 : decode cX4_prepareMatching 103 = .ok (.iload_n 2, 1) := by decide +kernel
theorem dX4_prepareMatching_104 : decode cX4_prepareMatching 104 = .ok (.bipush 6, 2) := by decide +kernel
theorem dX4_prepareMatching_106 : decode cX4_prepareMatching 106 = .ok (.if_icmp .ge 39, 3) := by decide +kernel
theorem dX4_prepareMatching_109 : decode cX4_prepareMatching 109 = .ok (.aload_n 0, 1) := by decide +kernel
theorem dX4_prepareMatching_110 : decode cX4_prepareMatching 110 = .ok (.getfield 30, 3) := by decide +kernel
theorem dX4_prepareMatching_113 : decode cX4_prepareMatching 113 = .ok (.getfield 198, 3) := by decide +kernel
theorem dX4_prepareMatching_116 : decode cX4_prepareMatching 116 = .ok (.iload_n 1, 1) := by decide +kernel
theorem dX4_prepareMatching_117 : decode cX4_prepareMatching 117 = .ok (.aaload, 1) := by decide +kernel
theorem dX4_prepareMatching_118 : decode cX4_prepareMatching 118 = .ok (.iload_n 2, 1) := by decide +kernel
theorem dX4_prepareMatching_119 : decode cX4_prepareMatching 119 = .ok (.aload_n 0, 1) := by decide +kernel
theorem dX4_prepareMatching_120 : decode cX4_prepareMatching 120 = .ok (.aload_n 0, 1) := by decide +kernel
theorem dX4_prepareMatching_121 : decode cX4_prepareMatching 121 = .ok (.getfield 17, 3) := by decide +kernel
theorem dX4_prepareMatching_124 : decode cX4_prepareMatching 124 = .ok (.iload_n 1, 1) := by decide +kernel
theorem dX4_prepareMatching_125 : decode cX4_prepareMatching 125 = .ok (.aaload, 1) := by decide +kernel
theorem dX4_prepareMatching_126 : decode cX4_prepareMatching 126 = .ok (.aload_n 0, 1) := by decide +kernel
theorem dX4_prepareMatching_127 : decode cX4_prepareMatching 127 = .ok (.getfield 30, 3) := by decide +kernel
theorem dX4_prepareMatching_130 : decode cX4_prepareMatching 130 = .ok (.getfield 202, 3) := by decide +kernel
theorem dX4_prepareMatching_133 : decode cX4_prepareMatching 133 = .ok (.iload_n 2, 1) := by decide +kernel
theorem dX4_prepareMatching_134 : decode cX4_prepareMatching 134 = .ok (.aaload, 1) := by decide +kernel
theorem dX4_prepareMatching_135 : decode cX4_prepareMatching 135 = .ok (.invokevirtual 138, 3) := by decide +kernel
theorem dX4_prepareMatching_138 : decode cX4_prepareMatching 138 = .ok (.lastore, 1) := by decide +kernel
theorem dX4_prepareMatching_139 : decode cX4_prepareMatching 139 = .ok (.iinc 2 1, 3) := by decide +kernel
theorem dX4_prepareMatching_142 : decode cX4_prepareMatching 142 = .ok (.goto (-50), 3) := by decide +kernel
theorem dX4_prepareMatching_145 : decode cX4_prepareMatching 145 = .ok (.iinc 1 1, 3) := by decide +kernel
theorem dX4_prepareMatching_148 : decode cX4_prepareMatching 148 = .ok (.goto (-82), 3) := by decide +kernel
theorem dX4_prepareMatching_151 : decode cX4_prepareMatching 151 = .ok (.return_, 1) := by decide +kernel
theorem dX4_extend_0 : decode cX4_extend 0 = .ok (.lload_n 3, 1) := by decide +kernel
theorem dX4_extend_1 : decode cX4_extend 1 = .ok (.aload_n 0, 1) := by decide +kernel
theorem dX4_extend_2 : decode cX4_extend 2 = .ok (.getfield 144, 3) := by decide +kernel
theorem dX4_extend_5 : decode cX4_extend 5 = .ok (.lcmp, 1) := by decide +kernel
theorem dX4_extend_6 : decode cX4_extend 6 = .ok (.ifCond .lt 4, 3) := by decide +kernel
theorem dX4_extend_9 : decode cX4_extend 9 = .ok (.return_, 1) := by decide +kernel
theorem dX4_extend_10 : decode cX4_extend 10 = .ok (.iload_n 1, 1) := by decide +kernel
theorem dX4_extend_11 : decode cX4_extend 11 = .ok (.ifCond .lt 16, 3) := by decide +kernel
theorem dX4_extend_14 : decode cX4_extend 14 = .ok (.iload_n 1, 1) := by decide +kernel
theorem dX4_extend_15 : decode cX4_extend 15 = .ok (.aload_n 0, 1) := by decide +kernel
theorem dX4_extend_16 : decode cX4_extend 16 = .ok (.getfield 205, 3) := by decide +kernel
theorem dX4_extend_19 : decode cX4_extend 19 = .ok (.if_icmp .ge 8, 3) := by decide +kernel
theorem dX4_extend_22 : decode cX4_extend 22 = .ok (.iload_n 1, 1) := by decide +kernel
theorem dX4_extend_23 : decode cX4_extend 23 = .ok (.iconst 4, 1) := by decide +kernel
theorem dX4_extend_24 : decode cX4_extend 24 = .ok (.if_icmp .lt 9, 3) := by decide +kernel
theorem dX4_extend_27 : decode cX4_extend 27 = .ok (.aload_n 0, 1) := by decide +kernel
theorem dX4_extend_28 : decode cX4_extend 28 = .ok (.lload_n 3, 1) := by decide +kernel
theorem dX4_extend_29 : decode cX4_extend 29 = .ok (.invokevirtual 206, 3) := by decide +kernel
theorem dX4_extend_32 : decode cX4_extend 32 = .ok (.return_, 1) := by decide +kernel
theorem dX4_extend_33 : decode cX4_extend 33 = .ok (.iconst 0, 1) := by decide +kernel
theorem dX4_extend_34 : decode cX4_extend 34 = .ok (.istore 5, 2) := by decide +kernel
theorem dX4_extend_36 : decode cX4_extend 36 = .ok (.iload 5, 2) := by decide +kernel
theorem dX4_extend_38 : decode cX4_extend 38 = .ok (.aload_n 0, 1) := by decide +kernel
theorem dX4_extend_39 : decode cX4_extend 39 = .ok (.getfield 195, 3) := by decide +kernel
theorem dX4_extend_42 : decode cX4_extend 42 = .ok (.if_icmp .ge 70, 3) := by decide +kernel
theorem dX4_extend_45 : decode cX4_extend 45 = .ok (.iload 5, 2) := by decide +kernel
theorem dX4_extend_47 : decode cX4_extend 47 = .ok (.bipush 6, 2) := by decide +kernel
theorem dX4_extend_49 : decode cX4_extend 49 = .ok (.if_icmp .ge 63, 3) := by decide +kernel
theorem dX4_extend_52 : decode cX4_extend 52 = .ok (.aload_n 0, 1) := by decide +kernel
theorem dX4_extend_53 : decode cX4_extend 53 = .ok (.getfield 198, 3) := by decide +kernel
theorem dX4_extend_56 : decode cX4_extend 56 = .ok (.iload_n 1, 1) := by decide +kernel
theorem dX4_extend_57 : decode cX4_extend 57 = .ok (.aaload, 1) := by decide +kernel
theorem dX4_extend_58 : decode cX4_extend 58 = .ok (.iload 5, 2) := by decide +kernel
theorem dX4_extend_60 : decode cX4_extend 60 = .ok (.laload, 1) := by decide +kernel
theorem dX4_extend_61 : decode cX4_extend 61 = .ok (.lstore 6, 2) := by decide +kernel
theorem dX4_extend_63 : decode cX4_extend 63 = .ok (.lload 6, 2) := by decide +kernel
theorem dX4_extend_65 : decode cX4_extend 65 = .ok (.ldc2_w 142, 3) := by decide +kernel
theorem dX4_extend_68 : decode cX4_extend 68 = .ok (.lcmp, 1) := by decide +kernel
theorem dX4_extend_69 : decode cX4_extend 69 = .ok (.ifCond .eq 37, 3) := by decide +kernel
theorem dX4_extend_72 : decode cX4_extend 72 = .ok (.iload_n 2, 1) := by decide +kernel
theorem dX4_extend_73 : decode cX4_extend 73 = .ok (.iload 5, 2) := by decide +kernel
theorem dX4_extend_75 : decode cX4_extend 75 = .ok (.ishr, 1) := by decide +kernel
theorem dX4_extend_76 : decode cX4_extend 76 = .ok (.iconst 1, 1) := by decide +kernel
theorem dX4_extend_77 : decode cX4_extend 77 = .ok (.iand, 1) := by decide +kernel
theorem dX4_extend_78 : decode cX4_extend 78 = .ok (.ifCond .ne 28, 3) := by decide +kernel
theorem dX4_extend_81 : decode cX4_extend 81 = .ok (.aload_n 0, 1) := by decide +kernel
theorem dX4_extend_82 : decode cX4_extend 82 = .ok (.getfield 209, 3) := by decide +kernel
theorem dX4_extend_85 : decode cX4_extend 85 = .ok (.iload_n 1, 1) := by decide +kernel
theorem dX4_extend_86 : decode cX4_extend 86 = .ok (.iload 5, 2) := by decide +kernel
theorem dX4_extend_88 : decode cX4_extend 88 = .ok (.iastore, 1) := by decide +kernel
theorem dX4_extend_89 : decode cX4_extend 89 = .ok (.aload_n 0, 1) := by decide +kernel
theorem dX4_extend_90 : decode cX4_extend 90 = .ok (.iload_n 1, 1) := by decide +kernel
theorem dX4_extend_91 : decode cX4_extend 91 = .ok (.iconst 1, 1) := by decide +kernel
theorem dX4_extend_92 : decode cX4_extend 92 = .ok (.iadd, 1) := by decide +kernel
theorem dX4_extend_93 : decode cX4_extend 93 = .ok (.iload_n 2, 1) := by decide +kernel
theorem dX4_extend_94 : decode cX4_extend 94 = .ok (.iconst 1, 1) := by decide +kernel
theorem dX4_extend_95 : decode cX4_extend 95 = .ok (.iload 5, 2) := by decide +kernel
theorem dX4_extend_97 : decode cX4_extend 97 = .ok (.ishl, 1) := by decide +kernel
theorem dX4_extend_98 : decode cX4_extend 98 = .ok (.ior, 1) := by decide +kernel
theorem dX4_extend_99 : decode cX4_extend 99 = .ok (.lload_n 3, 1) := by decide +kernel
theorem dX4_extend_100 : decode cX4_extend 100 = .ok (.lload 6, 2) := by decide +kernel
theorem dX4_extend_102 : decode cX4_extend 102 = .ok (.ladd, 1) := by decide +kernel
theorem dX4_extend_103 : decode cX4_extend 103 = .ok (.invokestatic 173, 3) := by decide +kernel
theorem dX4_extend_106 : decode cX4_extend 106 = .ok (.iinc 5 1, 3) := by decide +kernel
theorem dX4_extend_109 : decode cX4_extend 109 = .ok (.goto (-73), 3) := by decide +kernel
theorem dX4_extend_112 : decode cX4_extend 112 = .ok (.aload_n 0, 1) := by decide +kernel
theorem dX4_extend_113 : decode cX4_extend 113 = .ok (.getfield 209, 3) := by decide +kernel
theorem dX4_extend_116 : decode cX4_extend 116 = .ok (.iload_n 1, 1) := by decide +kernel
theorem dX4_extend_117 : decode cX4_extend 117 = .ok (.iconst (-1), 1) := by decide +kernel
theorem dX4_extend_118 : decode cX4_extend 118 = .ok (.iastore, 1) := by decide +kernel
theorem dX4_extend_119 : decode cX4_extend 119 = .ok (.aload_n 0, 1) := by decide +kernel
theorem dX4_extend_120 : decode cX4_extend 120 = .ok (.iload_n 1, 1) := by decide +kernel
theorem dX4_extend_121 : decode cX4_extend 121 = .ok (.iconst 1, 1) := by decide +kernel
theorem dX4_extend_122 : decode cX4_extend 122 = .ok (.iadd, 1) := by decide +kernel
theorem dX4_extend_123 : decode cX4_extend 123 = .ok (.iload_n 2, 1) := by decide +kernel
theorem dX4_extend_124 : decode cX4_extend 124 = .ok (.lload_n 3, 1) := by decide +kernel
theorem dX4_extend_125 : decode cX4_extend 125 = .ok (.aload_n 0, 1) := by decide +kernel
theorem dX4_extend_126 : decode cX4_extend 126 = .ok (.getfield 213, 3) := by decide +kernel
theorem dX4_extend_129 : decode cX4_extend 129 = .ok (.ladd, 1) := by decide +kernel
theorem dX4_extend_130 : decode cX4_extend 130 = .ok (.invokestatic 173, 3) := by decide +kernel
theorem dX4_extend_133 : decode cX4_extend 133 = .ok (.return_, 1) := by decide +kernel
theorem dX4_leastCostFrom_0 : decode cX4_leastCostFrom 0 = .ok (.iload_n 1, 1) := by decide +kernel
theorem dX4_leastCostFrom_1 : decode cX4_leastCostFrom 1 = .ok (.ifCond .lt 16, 3) := by decide +kernel
theorem dX4_leastCostFrom_4 : decode cX4_leastCostFrom 4 = .ok (.iload_n 1, 1) := by decide +kernel
theorem dX4_leastCostFrom_5 : decode cX4_leastCostFrom 5 = .ok (.aload_n 0, 1) := by decide +kernel
theorem dX4_leastCostFrom_6 : decode cX4_leastCostFrom 6 = .ok (.getfield 205, 3) := by decide +kernel
theorem dX4_leastCostFrom_9 : decode cX4_leastCostFrom 9 = .ok (.if_icmp .ge 8, 3) := by decide +kernel
theorem dX4_leastCostFrom_12 : decode cX4_leastCostFrom 12 = .ok (.iload_n 1, 1) := by decide +kernel
theorem dX4_leastCostFrom_13 : decode cX4_leastCostFrom 13 = .ok (.iconst 4, 1) := by decide +kernel
theorem dX4_leastCostFrom_14 : decode cX4_leastCostFrom 14 = .ok (.if_icmp .lt 5, 3) := by decide +kernel
theorem dX4_leastCostFrom_17 : decode cX4_leastCostFrom 17 = .ok (.lconst 0, 1) := by decide +kernel
theorem dX4_leastCostFrom_18 : decode cX4_leastCostFrom 18 = .ok (.lreturn, 1) := by decide +kernel
theorem dX4_leastCostFrom_19 : decode cX4_leastCostFrom 19 = .ok (.aload_n 0, 1) := by decide +kernel
theorem dX4_leastCostFrom_20 : decode cX4_leastCostFrom 20 = .ok (.getfield 213, 3) := by decide +kernel
theorem dX4_leastCostFrom_23 : decode cX4_leastCostFrom 23 = .ok (.aload_n 0, 1) := by decide +kernel
theorem dX4_leastCostFrom_24 : decode cX4_leastCostFrom 24 = .ok (.iload_n 1, 1) := by decide +kernel
theorem dX4_leastCostFrom_25 : decode cX4_leastCostFrom 25 = .ok (.iconst 1, 1) := by decide +kernel
theorem dX4_leastCostFrom_26 : decode cX4_leastCostFrom 26 = .ok (.iadd, 1) := by decide +kernel
theorem dX4_leastCostFrom_27 : decode cX4_leastCostFrom 27 = .ok (.iload_n 2, 1) := by decide +kernel
theorem dX4_leastCostFrom_28 : decode cX4_leastCostFrom 28 = .ok (.invokestatic 151, 3) := by decide +kernel
theorem dX4_leastCostFrom_31 : decode cX4_leastCostFrom 31 = .ok (.ladd, 1) := by decide +kernel
theorem dX4_leastCostFrom_32 : decode cX4_leastCostFrom 32 = .ok (.lstore_n 3, 1) := by decide +kernel
theorem dX4_leastCostFrom_33 : decode cX4_leastCostFrom 33 = .ok (.iconst 0, 1) := by decide +kernel
theorem dX4_leastCostFrom_34 : decode cX4_leastCostFrom 34 = .ok (.istore 5, 2) := by decide +kernel
theorem dX4_leastCostFrom_36 : decode cX4_leastCostFrom 36 = .ok (.iload 5, 2) := by decide +kernel
theorem dX4_leastCostFrom_38 : decode cX4_leastCostFrom 38 = .ok (.aload_n 0, 1) := by decide +kernel
theorem dX4_leastCostFrom_39 : decode cX4_leastCostFrom 39 = .ok (.getfield 195, 3) := by decide +kernel
theorem dX4_leastCostFrom_42 : decode cX4_leastCostFrom 42 = .ok (.if_icmp .ge 66, 3) := by decide +kernel
theorem dX4_leastCostFrom_45 : decode cX4_leastCostFrom 45 = .ok (.iload 5, 2) := by decide +kernel
theorem dX4_leastCostFrom_47 : decode cX4_leastCostFrom 47 = .ok (.bipush 6, 2) := by decide +kernel
theorem dX4_leastCostFrom_49 : decode cX4_leastCostFrom 49 = .ok (.if_icmp .ge 59, 3) := by decide +kernel
theorem dX4_leastCostFrom_52 : decode cX4_leastCostFrom 52 = .ok (.aload_n 0, 1) := by decide +kernel
theorem dX4_leastCostFrom_53 : decode cX4_leastCostFrom 53 = .ok (.getfield 198, 3) := by decide +kernel
theorem dX4_leastCostFrom_56 : decode cX4_leastCostFrom 56 = .ok (.iload_n 1, 1) := by decide +kernel
theorem dX4_leastCostFrom_57 : decode cX4_leastCostFrom 57 = .ok (.aaload, 1) := by decide +kernel
theorem dX4_leastCostFrom_58 : decode cX4_leastCostFrom 58 = .ok (.iload 5, 2) := by decide +kernel
theorem dX4_leastCostFrom_60 : decode cX4_leastCostFrom 60 = .ok (.laload, 1) := by decide +kernel
theorem dX4_leastCostFrom_61 : decode cX4_leastCostFrom 61 = .ok (.lstore 6, 2) := by decide +kernel
theorem dX4_leastCostFrom_63 : decode cX4_leastCostFrom 63 = .ok (.lload 6, 2) := by decide +kernel
theorem dX4_leastCostFrom_65 : decode cX4_leastCostFrom 65 = .ok (.ldc2_w 142, 3) := by decide +kernel
theorem dX4_leastCostFrom_68 : decode cX4_leastCostFrom 68 = .ok (.lcmp, 1) := by decide +kernel
theorem dX4_leastCostFrom_69 : decode cX4_leastCostFrom 69 = .ok (.ifCond .eq 33, 3) := by decide +kernel
theorem dX4_leastCostFrom_72 : decode cX4_leastCostFrom 72 = .ok (.iload_n 2, 1) := by decide +kernel
theorem dX4_leastCostFrom_73 : decode cX4_leastCostFrom 73 = .ok (.iload 5, 2) := by decide +kernel
theorem dX4_leastCostFrom_75 : decode cX4_leastCostFrom 75 = .ok (.ishr, 1) := by decide +kernel
theorem dX4_leastCostFrom_76 : decode cX4_leastCostFrom 76 = .ok (.iconst 1, 1) := by decide +kernel
theorem dX4_leastCostFrom_77 : decode cX4_leastCostFrom 77 = .ok (.iand, 1) := by decide +kernel
theorem dX4_leastCostFrom_78 : decode cX4_leastCostFrom 78 = .ok (.ifCond .ne 24, 3) := by decide +kernel
theorem dX4_leastCostFrom_81 : decode cX4_leastCostFrom 81 = .ok (.lload_n 3, 1) := by decide +kernel
theorem dX4_leastCostFrom_82 : decode cX4_leastCostFrom 82 = .ok (.lload 6, 2) := by decide +kernel
theorem dX4_leastCostFrom_84 : decode cX4_leastCostFrom 84 = .ok (.aload_n 0, 1) := by decide +kernel
theorem dX4_leastCostFrom_85 : decode cX4_leastCostFrom 85 = .ok (.iload_n 1, 1) := by decide +kernel
theorem dX4_leastCostFrom_86 : decode cX4_leastCostFrom 86 = .ok (.iconst 1, 1) := by decide +kernel
theorem dX4_leastCostFrom_87 : decode cX4_leastCostFrom 87 = .ok (.iadd, 1) := by decide +kernel
theorem dX4_leastCostFrom_88 : decode cX4_leastCostFrom 88 = .ok (.iload_n 2, 1) := by decide +kernel
theorem dX4_leastCostFrom_89 : decode cX4_leastCostFrom 89 = .ok (.iconst 1, 1) := by decide +kernel
theorem dX4_leastCostFrom_90 : decode cX4_leastCostFrom 90 = .ok (.iload 5, 2) := by decide +kernel
theorem dX4_leastCostFrom_92 : decode cX4_leastCostFrom 92 = .ok (.ishl, 1) := by decide +kernel
theorem dX4_leastCostFrom_93 : decode cX4_leastCostFrom 93 = .ok (.ior, 1) := by decide +kernel
theorem dX4_leastCostFrom_94 : decode cX4_leastCostFrom 94 = .ok (.invokestatic 151, 3) := by decide +kernel
theorem dX4_leastCostFrom_97 : decode cX4_leastCostFrom 97 = .ok (.ladd, 1) := by decide +kernel
theorem dX4_leastCostFrom_98 : decode cX4_leastCostFrom 98 = .ok (.invokestatic 216, 3) := by decide +kernel
theorem dX4_leastCostFrom_101 : decode cX4_leastCostFrom 101 = .ok (.lstore_n 3, 1) := by decide +kernel
theorem dX4_leastCostFrom_102 : decode cX4_leastCostFrom 102 = .ok (.iinc 5 1, 3) := by decide +kernel
theorem dX4_leastCostFrom_105 : decode cX4_leastCostFrom 105 = .ok (.goto (-69), 3) := by decide +kernel
theorem dX4_leastCostFrom_108 : decode cX4_leastCostFrom 108 = .ok (.lload_n 3, 1) := by decide +kernel
theorem dX4_leastCostFrom_109 : decode cX4_leastCostFrom 109 = .ok (.lreturn, 1) := by decide +kernel
theorem dX4_changeTakers_0 : decode cX4_changeTakers 0 = .ok (.iconst 0, 1) := by decide +kernel
theorem dX4_changeTakers_1 : decode cX4_changeTakers 1 = .ok (.istore_n 1, 1) := by decide +kernel
theorem dX4_changeTakers_2 : decode cX4_changeTakers 2 = .ok (.iconst 0, 1) := by decide +kernel
theorem dX4_changeTakers_3 : decode cX4_changeTakers 3 = .ok (.istore_n 2, 1) := by decide +kernel
theorem dX4_changeTakers_4 : decode cX4_changeTakers 4 = .ok (.iload_n 2, 1) := by decide +kernel
theorem dX4_changeTakers_5 : decode cX4_changeTakers 5 = .ok (.aload_n 0, 1) := by decide +kernel
theorem dX4_changeTakers_6 : decode cX4_changeTakers 6 = .ok (.getfield 93, 3) := by decide +kernel
theorem dX4_changeTakers_9 : decode cX4_changeTakers 9 = .ok (.if_icmp .ge 52, 3) := by decide +kernel
theorem dX4_changeTakers_12 : decode cX4_changeTakers 12 = .ok (.iload_n 2, 1) := by decide +kernel
theorem dX4_changeTakers_13 : decode cX4_changeTakers 13 = .ok (.aload_n 0, 1) := by decide +kernel
theorem dX4_changeTakers_14 : decode cX4_changeTakers 14 = .ok (.getfield 17, 3) := by decide +kernel
theorem dX4_changeTakers_17 : decode cX4_changeTakers 17 = .ok (.arraylength, 1) := by decide +kernel
theorem dX4_changeTakers_18 : decode cX4_changeTakers 18 = .ok (.if_icmp .ge 43, 3) := by decide +kernel
theorem dX4_changeTakers_21 : decode cX4_changeTakers 21 = .ok (.aload_n 0, 1) := by decide +kernel
theorem dX4_changeTakers_22 : decode cX4_changeTakers 22 = .ok (.getfield 30, 3) := by decide +kernel
theorem dX4_changeTakers_25 : decode cX4_changeTakers 25 = .ok (.iload_n 2, 1) := by decide +kernel
theorem dX4_changeTakers_26 : decode cX4_changeTakers 26 = .ok (.invokevirtual 155, 3) := by decide +kernel
theorem dX4_changeTakers_29 : decode cX4_changeTakers 29 = .ok (.astore_n 3, 1) := by decide +kernel
theorem dX4_changeTakers_30 : decode cX4_changeTakers 30 = .ok (.aload_n 3, 1) := by decide +kernel
theorem dX4_changeTakers_31 : decode cX4_changeTakers 31 = .ok (.ifnull 24, 3) := by decide +kernel
theorem dX4_changeTakers_34 : decode cX4_changeTakers 34 = .ok (.aload_n 3, 1) := by decide +kernel
theorem dX4_changeTakers_35 : decode cX4_changeTakers 35 = .ok (.aload_n 0, 1) := by decide +kernel
theorem dX4_changeTakers_36 : decode cX4_changeTakers 36 = .ok (.getfield 17, 3) := by decide +kernel
theorem dX4_changeTakers_39 : decode cX4_changeTakers 39 = .ok (.iload_n 2, 1) := by decide +kernel
theorem dX4_changeTakers_40 : decode cX4_changeTakers 40 = .ok (.aaload, 1) := by decide +kernel
theorem dX4_changeTakers_41 : decode cX4_changeTakers 41 = .ok (.aload_n 0, 1) := by decide +kernel
theorem dX4_changeTakers_42 : decode cX4_changeTakers 42 = .ok (.getfield 38, 3) := by decide +kernel
theorem dX4_changeTakers_45 : decode cX4_changeTakers 45 = .ok (.aload_n 0, 1) := by decide +kernel
theorem dX4_changeTakers_46 : decode cX4_changeTakers 46 = .ok (.getfield 41, 3) := by decide +kernel
theorem dX4_changeTakers_49 : decode cX4_changeTakers 49 = .ok (.invokevirtual 222, 3) := by decide +kernel
theorem dX4_changeTakers_52 : decode cX4_changeTakers 52 = .ok (.iinc 1 1, 3) := by decide +kernel
theorem dX4_changeTakers_55 : decode cX4_changeTakers 55 = .ok (.iinc 2 1, 3) := by decide +kernel
theorem dX4_changeTakers_58 : decode cX4_changeTakers 58 = .ok (.goto (-54), 3) := by decide +kernel
theorem dX4_changeTakers_61 : decode cX4_changeTakers 61 = .ok (.iload_n 1, 1) := by decide +kernel
theorem dX4_changeTakers_62 : decode cX4_changeTakers 62 = .ok (.ireturn, 1) := by decide +kernel
theorem dX4_missOthers_0 : decode cX4_missOthers 0 = .ok (.iconst 0, 1) := by decide +kernel
theorem dX4_missOthers_1 : decode cX4_missOthers 1 = .ok (.istore_n 1, 1) := by decide +kernel
theorem dX4_missOthers_2 : decode cX4_missOthers 2 = .ok (.iload_n 1, 1) := by decide +kernel
theorem dX4_missOthers_3 : decode cX4_missOthers 3 = .ok (.aload_n 0, 1) := by decide +kernel
theorem dX4_missOthers_4 : decode cX4_missOthers 4 = .ok (.getfield 30, 3) := by decide +kernel
theorem dX4_missOthers_7 : decode cX4_missOthers 7 = .ok (.getfield 195, 3) := by decide +kernel
theorem dX4_missOthers_10 : decode cX4_missOthers 10 = .ok (.if_icmp .ge 42, 3) := by decide +kernel
theorem dX4_missOthers_13 : decode cX4_missOthers 13 = .ok (.iload_n 1, 1) := by decide +kernel
theorem dX4_missOthers_14 : decode cX4_missOthers 14 = .ok (.bipush 6, 2) := by decide +kernel
theorem dX4_missOthers_16 : decode cX4_missOthers 16 = .ok (.if_icmp .ge 36, 3) := by decide +kernel
theorem dX4_missOthers_19 : decode cX4_missOthers 19 = .ok (.aload_n 0, 1) := by decide +kernel
theorem dX4_missOthers_20 : decode cX4_missOthers 20 = .ok (.getfield 30, 3) := by decide +kernel
theorem dX4_missOthers_23 : decode cX4_missOthers 23 = .ok (.iload_n 1, 1) := by decide +kernel
theorem dX4_missOthers_24 : decode cX4_missOthers 24 = .ok (.invokevirtual 226, 3) := by decide +kernel
theorem dX4_missOthers_27 : decode cX4_missOthers 27 = .ok (.ifCond .ne 19, 3) := by decide +kernel
theorem dX4_missOthers_30 : decode cX4_missOthers 30 = .ok (.aload_n 0, 1) := by decide +kernel
theorem dX4_missOthers_31 : decode cX4_missOthers 31 = .ok (.getfield 30, 3) := by decide +kernel
theorem dX4_missOthers_34 : decode cX4_missOthers 34 = .ok (.getfield 202, 3) := by decide +kernel
theorem dX4_missOthers_37 : decode cX4_missOthers 37 = .ok (.iload_n 1, 1) := by decide +kernel
theorem dX4_missOthers_38 : decode cX4_missOthers 38 = .ok (.aaload, 1) := by decide +kernel
theorem dX4_missOthers_39 : decode cX4_missOthers 39 = .ok (.aload_n 0, 1) := by decide +kernel
theorem dX4_missOthers_40 : decode cX4_missOthers 40 = .ok (.getfield 44, 3) := by decide +kernel
theorem dX4_missOthers_43 : decode cX4_missOthers 43 = .ok (.invokevirtual 229, 3) := by decide +kernel
theorem dX4_missOthers_46 : decode cX4_missOthers 46 = .ok (.iinc 1 1, 3) := by decide +kernel
theorem dX4_missOthers_49 : decode cX4_missOthers 49 = .ok (.goto (-47), 3) := by decide +kernel
theorem dX4_missOthers_52 : decode cX4_missOthers 52 = .ok (.return_, 1) := by decide +kernel
theorem dX4_beginTracks_0 : decode cX4_beginTracks 0 = .ok (.aload_n 0, 1) := by decide +kernel
theorem dX4_beginTracks_1 : decode cX4_beginTracks 1 = .ok (.invokevirtual 233, 3) := by decide +kernel
theorem dX4_beginTracks_4 : decode cX4_beginTracks 4 = .ok (.istore_n 1, 1) := by decide +kernel
theorem dX4_beginTracks_5 : decode cX4_beginTracks 5 = .ok (.iconst 0, 1) := by decide +kernel
theorem dX4_beginTracks_6 : decode cX4_beginTracks 6 = .ok (.istore_n 2, 1) := by decide +kernel
theorem dX4_beginTracks_7 : decode cX4_beginTracks 7 = .ok (.iload_n 2, 1) := by decide +kernel
theorem dX4_beginTracks_8 : decode cX4_beginTracks 8 = .ok (.aload_n 0, 1) := by decide +kernel
theorem dX4_beginTracks_9 : decode cX4_beginTracks 9 = .ok (.getfield 93, 3) := by decide +kernel
theorem dX4_beginTracks_12 : decode cX4_beginTracks 12 = .ok (.if_icmp .ge 106, 3) := by decide +kernel
theorem dX4_beginTracks_15 : decode cX4_beginTracks 15 = .ok (.iload_n 2, 1) := by decide +kernel
theorem dX4_beginTracks_16 : decode cX4_beginTracks 16 = .ok (.aload_n 0, 1) := by decide +kernel
theorem dX4_beginTracks_17 : decode cX4_beginTracks 17 = .ok (.getfield 17, 3) := by decide +kernel
theorem dX4_beginTracks_20 : decode cX4_beginTracks 20 = .ok (.arraylength, 1) := by decide +kernel
theorem dX4_beginTracks_21 : decode cX4_beginTracks 21 = .ok (.if_icmp .ge 97, 3) := by decide +kernel
theorem dX4_beginTracks_24 : decode cX4_beginTracks 24 = .ok (.aload_n 0, 1) := by decide +kernel
theorem dX4_beginTracks_25 : decode cX4_beginTracks 25 = .ok (.getfield 30, 3) := by decide +kernel
theorem dX4_beginTracks_28 : decode cX4_beginTracks 28 = .ok (.iload_n 2, 1) := by decide +kernel
theorem dX4_beginTracks_29 : decode cX4_beginTracks 29 = .ok (.invokevirtual 155, 3) := by decide +kernel
theorem dX4_beginTracks_32 : decode cX4_beginTracks 32 = .ok (.ifnonnull 80, 3) := by decide +kernel
theorem dX4_beginTracks_35 : decode cX4_beginTracks 35 = .ok (.iload_n 1, 1) := by decide +kernel
theorem dX4_beginTracks_36 : decode cX4_beginTracks 36 = .ok (.bipush 6, 2) := by decide +kernel
theorem dX4_beginTracks_38 : decode cX4_beginTracks 38 = .ok (.if_icmp .ge 22, 3) := by decide +kernel
theorem dX4_beginTracks_41 : decode cX4_beginTracks 41 = .ok (.aload_n 0, 1) := by decide +kernel
theorem dX4_beginTracks_42 : decode cX4_beginTracks 42 = .ok (.getfield 181, 3) := by decide +kernel
theorem dX4_beginTracks_45 : decode cX4_beginTracks 45 = .ok (.ifCond .lt 15, 3) := by decide +kernel
theorem dX4_beginTracks_48 : decode cX4_beginTracks 48 = .ok (.aload_n 0, 1) := by decide +kernel
theorem dX4_beginTracks_49 : decode cX4_beginTracks 49 = .ok (.getfield 181, 3) := by decide +kernel
theorem dX4_beginTracks_52 : decode cX4_beginTracks 52 = .ok (.aload_n 0, 1) := by decide +kernel
theorem dX4_beginTracks_53 : decode cX4_beginTracks 53 = .ok (.getfield 23, 3) := by decide +kernel
theorem dX4_beginTracks_56 : decode cX4_beginTracks 56 = .ok (.arraylength, 1) := by decide +kernel
theorem dX4_beginTracks_57 : decode cX4_beginTracks 57 = .ok (.if_icmp .lt 16, 3) := by decide +kernel
theorem dX4_beginTracks_60 : decode cX4_beginTracks 60 = .ok (.aload_n 0, 1) := by decide +kernel
theorem dX4_beginTracks_61 : decode cX4_beginTracks 61 = .ok (.dup, 1) := by decide +kernel
theorem dX4_beginTracks_62 : decode cX4_beginTracks 62 = .ok (.getfield 236, 3) := by decide +kernel
theorem dX4_beginTracks_65 : decode cX4_beginTracks 65 = .ok (.iconst 1, 1) := by decide +kernel
theorem dX4_beginTracks_66 : decode cX4_beginTracks 66 = .ok (.iadd, 1) := by decide +kernel
theorem dX4_beginTracks_67 : decode cX4_beginTracks 67 = .ok (.putfield 236, 3) := by decide +kernel
theorem dX4_beginTracks_70 : decode cX4_beginTracks 70 = .ok (.goto 42, 3) := by decide +kernel
theorem dX4_beginTracks_73 : decode cX4_beginTracks 73 = .ok (.aload_n 0, 1) := by decide +kernel
theorem dX4_beginTracks_74 : decode cX4_beginTracks 74 = .ok (.getfield 23, 3) := by decide +kernel
theorem dX4_beginTracks_77 : decode cX4_beginTracks 77 = .ok (.aload_n 0, 1) := by decide +kernel
theorem dX4_beginTracks_78 : decode cX4_beginTracks 78 = .ok (.getfield 181, 3) := by decide +kernel
theorem dX4_beginTracks_81 : decode cX4_beginTracks 81 = .ok (.new 21, 3) := by decide +kernel
theorem dX4_beginTracks_84 : decode cX4_beginTracks 84 = .ok (.dup, 1) := by decide +kernel
theorem dX4_beginTracks_85 : decode cX4_beginTracks 85 = .ok (.aload_n 0, 1) := by decide +kernel
theorem dX4_beginTracks_86 : decode cX4_beginTracks 86 = .ok (.getfield 181, 3) := by decide +kernel
theorem dX4_beginTracks_89 : decode cX4_beginTracks 89 = .ok (.aload_n 0, 1) := by decide +kernel
theorem dX4_beginTracks_90 : decode cX4_beginTracks 90 = .ok (.getfield 17, 3) := by decide +kernel
theorem dX4_beginTracks_93 : decode cX4_beginTracks 93 = .ok (.iload_n 2, 1) := by decide +kernel
theorem dX4_beginTracks_94 : decode cX4_beginTracks 94 = .ok (.aaload, 1) := by decide +kernel
theorem dX4_beginTracks_95 : decode cX4_beginTracks 95 = .ok (.invokespecial 239, 3) := by decide +kernel
theorem dX4_beginTracks_98 : decode cX4_beginTracks 98 = .ok (.aastore, 1) := by decide +kernel
theorem dX4_beginTracks_99 : decode cX4_beginTracks 99 = .ok (.aload_n 0, 1) := by decide +kernel
theorem dX4_beginTracks_100 : decode cX4_beginTracks 100 = .ok (.dup, 1) := by decide +kernel
theorem dX4_beginTracks_101 : decode cX4_beginTracks 101 = .ok (.getfield 181, 3) := by decide +kernel
theorem dX4_beginTracks_104 : decode cX4_beginTracks 104 = .ok (.iconst 1, 1) := by decide +kernel
theorem dX4_beginTracks_105 : decode cX4_beginTracks 105 = .ok (.iadd, 1) := by decide +kernel
theorem dX4_beginTracks_106 : decode cX4_beginTracks 106 = .ok (.putfield 181, 3) := by decide +kernel
theorem dX4_beginTracks_109 : decode cX4_beginTracks 109 = .ok (.iinc 1 1, 3) := by decide +kernel
theorem dX4_beginTracks_112 : decode cX4_beginTracks 112 = .ok (.iinc 2 1, 3) := by decide +kernel
theorem dX4_beginTracks_115 : decode cX4_beginTracks 115 = .ok (.goto (-108), 3) := by decide +kernel
theorem dX4_beginTracks_118 : decode cX4_beginTracks 118 = .ok (.return_, 1) := by decide +kernel
theorem dX4_mergeTracks_0 : decode cX4_mergeTracks 0 = .ok (.iconst 0, 1) := by decide +kernel
theorem dX4_mergeTracks_1 : decode cX4_mergeTracks 1 = .ok (.istore_n 1, 1) := by decide +kernel
theorem dX4_mergeTracks_2 : decode cX4_mergeTracks 2 = .ok (.iload_n 1, 1) := by decide +kernel
theorem dX4_mergeTracks_3 : decode cX4_mergeTracks 3 = .ok (.aload_n 0, 1) := by decide +kernel
theorem dX4_mergeTracks_4 : decode cX4_mergeTracks 4 = .ok (.getfield 181, 3) := by decide +kernel
theorem dX4_mergeTracks_7 : decode cX4_mergeTracks 7 = .ok (.if_icmp .ge 40, 3) := by decide +kernel
theorem dX4_mergeTracks_10 : decode cX4_mergeTracks 10 = .ok (.iload_n 1, 1) := by decide +kernel
theorem dX4_mergeTracks_11 : decode cX4_mergeTracks 11 = .ok (.aload_n 0, 1) := by decide +kernel
theorem dX4_mergeTracks_12 : decode cX4_mergeTracks 12 = .ok (.getfield 23, 3) := by decide +kernel
theorem dX4_mergeTracks_15 : decode cX4_mergeTracks 15 = .ok (.arraylength, 1) := by decide +kernel
theorem dX4_mergeTracks_16 : decode cX4_mergeTracks 16 = .ok (.if_icmp .ge 31, 3) := by decide +kernel
theorem dX4_mergeTracks_19 : decode cX4_mergeTracks 19 = .ok (.aload_n 0, 1) := by decide +kernel
theorem dX4_mergeTracks_20 : decode cX4_mergeTracks 20 = .ok (.getfield 23, 3) := by decide +kernel
theorem dX4_mergeTracks_23 : decode cX4_mergeTracks 23 = .ok (.iload_n 1, 1) := by decide +kernel
theorem dX4_mergeTracks_24 : decode cX4_mergeTracks 24 = .ok (.aaload, 1) := by decide +kernel
theorem dX4_mergeTracks_25 : decode cX4_mergeTracks 25 = .ok (.getfield 184, 3) := by decide +kernel
theorem dX4_mergeTracks_28 : decode cX4_mergeTracks 28 = .ok (.ifCond .eq 13, 3) := by decide +kernel
theorem dX4_mergeTracks_31 : decode cX4_mergeTracks 31 = .ok (.aload_n 0, 1) := by decide +kernel
theorem dX4_mergeTracks_32 : decode cX4_mergeTracks 32 = .ok (.aload_n 0, 1) := by decide +kernel
theorem dX4_mergeTracks_33 : decode cX4_mergeTracks 33 = .ok (.getfield 23, 3) := by decide +kernel
theorem dX4_mergeTracks_36 : decode cX4_mergeTracks 36 = .ok (.iload_n 1, 1) := by decide +kernel
theorem dX4_mergeTracks_37 : decode cX4_mergeTracks 37 = .ok (.aaload, 1) := by decide +kernel
theorem dX4_mergeTracks_38 : decode cX4_mergeTracks 38 = .ok (.invokevirtual 242, 3) := by decide +kernel
theorem dX4_mergeTracks_41 : decode cX4_mergeTracks 41 = .ok (.iinc 1 1, 3) := by decide +kernel
theorem dX4_mergeTracks_44 : decode cX4_mergeTracks 44 = .ok (.goto (-42), 3) := by decide +kernel
theorem dX4_mergeTracks_47 : decode cX4_mergeTracks 47 = .ok (.return_, 1) := by decide +kernel
theorem dX4_mergeLaterOnesInto_0 : decode cX4_mergeLaterOnesInto 0 = .ok (.iconst 0, 1) := by decide +kernel
theorem dX4_mergeLaterOnesInto_1 : decode cX4_mergeLaterOnesInto 1 = .ok (.istore_n 2, 1) := by decide +kernel
theorem dX4_mergeLaterOnesInto_2 : decode cX4_mergeLaterOnesInto 2 = .ok (.iload_n 2, 1) := by decide +kernel
theorem dX4_mergeLaterOnesInto_3 : decode cX4_mergeLaterOnesInto 3 = .ok (.aload_n 0, 1) := by decide +kernel
theorem dX4_mergeLaterOnesInto_4 : decode cX4_mergeLaterOnesInto 4 = .ok (.getfield 181, 3) := by decide +kernel
theorem dX4_mergeLaterOnesInto_7 : decode cX4_mergeLaterOnesInto 7 = .ok (.if_icmp .ge 62, 3) := by decide +kernel
theorem dX4_mergeLaterOnesInto_10 : decode cX4_mergeLaterOnesInto 10 = .ok (.iload_n 2, 1) := by decide +kernel
theorem dX4_mergeLaterOnesInto_11 : decode cX4_mergeLaterOnesInto 11 = .ok (.aload_n 0, 1) := by decide +kernel
theorem dX4_mergeLaterOnesInto_12 : decode cX4_mergeLaterOnesInto 12 = .ok (.getfield 23, 3) := by decide +kernel
theorem dX4_mergeLaterOnesInto_15 : decode cX4_mergeLaterOnesInto 15 = .ok (.arraylength, 1) := by decide +kernel
theorem dX4_mergeLaterOnesInto_16 : decode cX4_mergeLaterOnesInto 16 = .ok (.if_icmp .ge 53, 3) := by decide +kernel
theorem dX4_mergeLaterOnesInto_19 : decode cX4_mergeLaterOnesInto 19 = .ok (.aload_n 0, 1) := by decide +kernel
theorem dX4_mergeLaterOnesInto_20 : decode cX4_mergeLaterOnesInto 20 = .ok (.getfield 23, 3) := by decide +kernel
theorem dX4_mergeLaterOnesInto_23 : decode cX4_mergeLaterOnesInto 23 = .ok (.iload_n 2, 1) := by decide +kernel
theorem dX4_mergeLaterOnesInto_24 : decode cX4_mergeLaterOnesInto 24 = .ok (.aaload, 1) := by decide +kernel
theorem dX4_mergeLaterOnesInto_25 : decode cX4_mergeLaterOnesInto 25 = .ok (.astore_n 3, 1) := by decide +kernel
theorem dX4_mergeLaterOnesInto_26 : decode cX4_mergeLaterOnesInto 26 = .ok (.aload_n 3, 1) := by decide +kernel
theorem dX4_mergeLaterOnesInto_27 : decode cX4_mergeLaterOnesInto 27 = .ok (.getfield 158, 3) := by decide +kernel
theorem dX4_mergeLaterOnesInto_30 : decode cX4_mergeLaterOnesInto 30 = .ok (.aload_n 1, 1) := by decide +kernel
theorem dX4_mergeLaterOnesInto_31 : decode cX4_mergeLaterOnesInto 31 = .ok (.getfield 158, 3) := by decide +kernel
theorem dX4_mergeLaterOnesInto_34 : decode cX4_mergeLaterOnesInto 34 = .ok (.if_icmp .le 29, 3) := by decide +kernel
theorem dX4_mergeLaterOnesInto_37 : decode cX4_mergeLaterOnesInto 37 = .ok (.aload_n 3, 1) := by decide +kernel
theorem dX4_mergeLaterOnesInto_38 : decode cX4_mergeLaterOnesInto 38 = .ok (.getfield 184, 3) := by decide +kernel
theorem dX4_mergeLaterOnesInto_41 : decode cX4_mergeLaterOnesInto 41 = .ok (.ifCond .eq 22, 3) := by decide +kernel
theorem dX4_mergeLaterOnesInto_44 : decode cX4_mergeLaterOnesInto 44 = .ok (.aload_n 0, 1) := by decide +kernel
theorem dX4_mergeLaterOnesInto_45 : decode cX4_mergeLaterOnesInto 45 = .ok (.aload_n 1, 1) := by decide +kernel
theorem dX4_mergeLaterOnesInto_46 : decode cX4_mergeLaterOnesInto 46 = .ok (.aload_n 3, 1) := by decide +kernel
theorem dX4_mergeLaterOnesInto_47 : decode cX4_mergeLaterOnesInto 47 = .ok (.invokevirtual 245, 3) := by decide +kernel
theorem dX4_mergeLaterOnesInto_50 : decode cX4_mergeLaterOnesInto 50 = .ok (.ifCond .eq 13, 3) := by decide +kernel
theorem dX4_mergeLaterOnesInto_53 : decode cX4_mergeLaterOnesInto 53 = .ok (.aload_n 1, 1) := by decide +kernel
theorem dX4_mergeLaterOnesInto_54 : decode cX4_mergeLaterOnesInto 54 = .ok (.aload_n 3, 1) := by decide +kernel
theorem dX4_mergeLaterOnesInto_55 : decode cX4_mergeLaterOnesInto 55 = .ok (.invokevirtual 249, 3) := by decide +kernel
theorem dX4_mergeLaterOnesInto_58 : decode cX4_mergeLaterOnesInto 58 = .ok (.aload_n 3, 1) := by decide +kernel
theorem dX4_mergeLaterOnesInto_59 : decode cX4_mergeLaterOnesInto 59 = .ok (.aload_n 1, 1) := by decide +kernel
theorem dX4_mergeLaterOnesInto_60 : decode cX4_mergeLaterOnesInto 60 = .ok (.invokevirtual 252, 3) := by decide +kernel
theorem dX4_mergeLaterOnesInto_63 : decode cX4_mergeLaterOnesInto 63 = .ok (.iinc 2 1, 3) := by decide +kernel
theorem dX4_mergeLaterOnesInto_66 : decode cX4_mergeLaterOnesInto 66 = .ok (.goto (-64), 3) := by decide +kernel
theorem dX4_mergeLaterOnesInto_69 : decode cX4_mergeLaterOnesInto 69 = .ok (.return_, 1) := by decide +kernel
theorem dX4_areNear_0 : decode cX4_areNear 0 = .ok (.aload_n 1, 1) := by decide +kernel
theorem dX4_areNear_1 : decode cX4_areNear 1 = .ok (.getfield 166, 3) := by decide +kernel
theorem dX4_areNear_4 : decode cX4_areNear 4 = .ok (.aload_n 2, 1) := by decide +kernel
theorem dX4_areNear_5 : decode cX4_areNear 5 = .ok (.getfield 166, 3) := by decide +kernel
theorem dX4_areNear_8 : decode cX4_areNear 8 = .ok (.invokestatic 255, 3) := by decide +kernel
theorem dX4_areNear_11 : decode cX4_areNear 11 = .ok (.istore_n 3, 1) := by decide +kernel
theorem dX4_areNear_12 : decode cX4_areNear 12 = .ok (.aload_n 1, 1) := by decide +kernel
theorem dX4_areNear_13 : decode cX4_areNear 13 = .ok (.iload_n 3, 1) := by decide +kernel
theorem dX4_areNear_14 : decode cX4_areNear 14 = .ok (.invokevirtual 259, 3) := by decide +kernel
theorem dX4_areNear_17 : decode cX4_areNear 17 = .ok (.aload_n 2, 1) := by decide +kernel
theorem dX4_areNear_18 : decode cX4_areNear 18 = .ok (.iload_n 3, 1) := by decide +kernel
theorem dX4_areNear_19 : decode cX4_areNear 19 = .ok (.invokevirtual 259, 3) := by decide +kernel
theorem dX4_areNear_22 : decode cX4_areNear 22 = .ok (.isub, 1) := by decide +kernel
theorem dX4_areNear_23 : decode cX4_areNear 23 = .ok (.aload_n 1, 1) := by decide +kernel
theorem dX4_areNear_24 : decode cX4_areNear 24 = .ok (.iload_n 3, 1) := by decide +kernel
theorem dX4_areNear_25 : decode cX4_areNear 25 = .ok (.invokevirtual 262, 3) := by decide +kernel
theorem dX4_areNear_28 : decode cX4_areNear 28 = .ok (.aload_n 2, 1) := by decide +kernel
theorem dX4_areNear_29 : decode cX4_areNear 29 = .ok (.iload_n 3, 1) := by decide +kernel
theorem dX4_areNear_30 : decode cX4_areNear 30 = .ok (.invokevirtual 262, 3) := by decide +kernel
theorem dX4_areNear_33 : decode cX4_areNear 33 = .ok (.isub, 1) := by decide +kernel
theorem dX4_areNear_34 : decode cX4_areNear 34 = .ok (.invokestatic 265, 3) := by decide +kernel
theorem dX4_areNear_37 : decode cX4_areNear 37 = .ok (.lstore 4, 2) := by decide +kernel
theorem dX4_areNear_39 : decode cX4_areNear 39 = .ok (.aload_n 1, 1) := by decide +kernel
theorem dX4_areNear_40 : decode cX4_areNear 40 = .ok (.getfield 269, 3) := by decide +kernel
theorem dX4_areNear_43 : decode cX4_areNear 43 = .ok (.aload_n 2, 1) := by decide +kernel
theorem dX4_areNear_44 : decode cX4_areNear 44 = .ok (.getfield 269, 3) := by decide +kernel
theorem dX4_areNear_47 : decode cX4_areNear 47 = .ok (.isub, 1) := by decide +kernel
theorem dX4_areNear_48 : decode cX4_areNear 48 = .ok (.invokestatic 272, 3) := by decide +kernel
theorem dX4_areNear_51 : decode cX4_areNear 51 = .ok (.aload_n 1, 1) := by decide +kernel
theorem dX4_areNear_52 : decode cX4_areNear 52 = .ok (.getfield 275, 3) := by decide +kernel
theorem dX4_areNear_55 : decode cX4_areNear 55 = .ok (.aload_n 2, 1) := by decide +kernel
theorem dX4_areNear_56 : decode cX4_areNear 56 = .ok (.getfield 275, 3) := by decide +kernel
theorem dX4_areNear_59 : decode cX4_areNear 59 = .ok (.isub, 1) := by decide +kernel
theorem dX4_areNear_60 : decode cX4_areNear 60 = .ok (.invokestatic 272, 3) := by decide +kernel
theorem dX4_areNear_63 : decode cX4_areNear 63 = .ok (.iadd, 1) := by decide +kernel
theorem dX4_areNear_64 : decode cX4_areNear 64 = .ok (.istore 6, 2) := by decide +kernel
theorem dX4_areNear_66 : decode cX4_areNear 66 = .ok (.lload 4, 2) := by decide +kernel
theorem dX4_areNear_68 : decode cX4_areNear 68 = .ok (.aload_n 0, 1) := by decide +kernel
theorem dX4_areNear_69 : decode cX4_areNear 69 = .ok (.getfield 47, 3) := by decide +kernel
theorem dX4_areNear_72 : decode cX4_areNear 72 = .ok (.invokestatic 167, 3) := by decide +kernel
theorem dX4_areNear_75 : decode cX4_areNear 75 = .ok (.lcmp, 1) := by decide +kernel
theorem dX4_areNear_76 : decode cX4_areNear 76 = .ok (.ifCond .gt 14, 3) := by decide +kernel
theorem dX4_areNear_79 : decode cX4_areNear 79 = .ok (.iload 6, 2) := by decide +kernel
theorem dX4_areNear_81 : decode cX4_areNear 81 = .ok (.bipush 16, 2) := by decide +kernel
theorem dX4_areNear_83 : decode cX4_areNear 83 = .ok (.if_icmp .gt 7, 3) := by decide +kernel
theorem dX4_areNear_86 : decode cX4_areNear 86 = .ok (.iconst 1, 1) := by decide +kernel
theorem dX4_areNear_87 : decode cX4_areNear 87 = .ok (.goto 4, 3) := by decide +kernel
theorem dX4_areNear_90 : decode cX4_areNear 90 = .ok (.iconst 0, 1) := by decide +kernel
theorem dX4_areNear_91 : decode cX4_areNear 91 = .ok (.ireturn, 1) := by decide +kernel
theorem dX4_tracks_0 : decode cX4_tracks 0 = .ok (.aload_n 0, 1) := by decide +kernel
theorem dX4_tracks_1 : decode cX4_tracks 1 = .ok (.getfield 181, 3) := by decide +kernel
theorem dX4_tracks_4 : decode cX4_tracks 4 = .ok (.ireturn, 1) := by decide +kernel
theorem dX4_liveTracks_0 : decode cX4_liveTracks 0 = .ok (.aload_n 0, 1) := by decide +kernel
theorem dX4_liveTracks_1 : decode cX4_liveTracks 1 = .ok (.invokevirtual 233, 3) := by decide +kernel
theorem dX4_liveTracks_4 : decode cX4_liveTracks 4 = .ok (.ireturn, 1) := by decide +kernel
theorem dX4_status_0 : decode cX4_status 0 = .ok (.aload_n 0, 1) := by decide +kernel
theorem dX4_status_1 : decode cX4_status 1 = .ok (.iload_n 1, 1) := by decide +kernel
theorem dX4_status_2 : decode cX4_status 2 = .ok (.invokevirtual 278, 3) := by decide +kernel
theorem dX4_status_5 : decode cX4_status 5 = .ok (.astore_n 2, 1) := by decide +kernel
theorem dX4_status_6 : decode cX4_status 6 = .ok (.aload_n 2, 1) := by decide +kernel
theorem dX4_status_7 : decode cX4_status 7 = .ok (.getfield 184, 3) := by decide +kernel
theorem dX4_status_10 : decode cX4_status 10 = .ok (.ifCond .eq 19, 3) := by decide +kernel
theorem dX4_status_13 : decode cX4_status 13 = .ok (.aload_n 2, 1) := by decide +kernel
theorem dX4_status_14 : decode cX4_status 14 = .ok (.getfield 281, 3) := by decide +kernel
theorem dX4_status_17 : decode cX4_status 17 = .ok (.iconst 3, 1) := by decide +kernel
theorem dX4_status_18 : decode cX4_status 18 = .ok (.if_icmp .ge 8, 3) := by decide +kernel
theorem dX4_status_21 : decode cX4_status 21 = .ok (.bipush 116, 2) := by decide +kernel
theorem dX4_status_23 : decode cX4_status 23 = .ok (.goto 5, 3) := by decide +kernel
theorem dX4_status_26 : decode cX4_status 26 = .ok (.bipush 99, 2) := by decide +kernel
theorem dX4_status_28 : decode cX4_status 28 = .ok (.ireturn, 1) := by decide +kernel
theorem dX4_status_29 : decode cX4_status 29 = .ok (.aload_n 2, 1) := by decide +kernel
theorem dX4_status_30 : decode cX4_status 30 = .ok (.getfield 284, 3) := by decide +kernel
theorem dX4_status_33 : decode cX4_status 33 = .ok (.iconst (-1), 1) := by decide +kernel
theorem dX4_status_34 : decode cX4_status 34 = .ok (.if_icmp .ne 8, 3) := by decide +kernel
theorem dX4_status_37 : decode cX4_status 37 = .ok (.bipush 108, 2) := by decide +kernel
theorem dX4_status_39 : decode cX4_status 39 = .ok (.goto 5, 3) := by decide +kernel
theorem dX4_status_42 : decode cX4_status 42 = .ok (.bipush 109, 2) := by decide +kernel
theorem dX4_status_44 : decode cX4_status 44 = .ok (.ireturn, 1) := by decide +kernel
theorem dX4_timeOf_0 : decode cX4_timeOf 0 = .ok (.aload_n 0, 1) := by decide +kernel
theorem dX4_timeOf_1 : decode cX4_timeOf 1 = .ok (.iload_n 1, 1) := by decide +kernel
theorem dX4_timeOf_2 : decode cX4_timeOf 2 = .ok (.invokevirtual 278, 3) := by decide +kernel
theorem dX4_timeOf_5 : decode cX4_timeOf 5 = .ok (.getfield 166, 3) := by decide +kernel
theorem dX4_timeOf_8 : decode cX4_timeOf 8 = .ok (.ireturn, 1) := by decide +kernel
theorem dX4_stateOf_0 : decode cX4_stateOf 0 = .ok (.aload_n 0, 1) := by decide +kernel
theorem dX4_stateOf_1 : decode cX4_stateOf 1 = .ok (.iload_n 1, 1) := by decide +kernel
theorem dX4_stateOf_2 : decode cX4_stateOf 2 = .ok (.invokevirtual 278, 3) := by decide +kernel
theorem dX4_stateOf_5 : decode cX4_stateOf 5 = .ok (.astore_n 3, 1) := by decide +kernel
theorem dX4_stateOf_6 : decode cX4_stateOf 6 = .ok (.iload_n 2, 1) := by decide +kernel
theorem dX4_stateOf_7 : decode cX4_stateOf 7 = .ok (.iconst 0, 1) := by decide +kernel
theorem dX4_stateOf_8 : decode cX4_stateOf 8 = .ok (.iconst 3, 1) := by decide +kernel
theorem dX4_stateOf_9 : decode cX4_stateOf 9 = .ok (.invokestatic 86, 3) := by decide +kernel
theorem dX4_stateOf_12 : decode cX4_stateOf 12 = .ok (.invokestatic 60, 3) := by decide +kernel
theorem dX4_stateOf_15 : decode cX4_stateOf 15 = .ok (.iload_n 2, 1) := by decide +kernel
theorem dX4_stateOf_16 : decode cX4_stateOf 16 = .ok (.iconst 2, 1) := by decide +kernel
theorem dX4_stateOf_17 : decode cX4_stateOf 17 = .ok (.if_icmp .ge 19, 3) := by decide +kernel
theorem dX4_stateOf_20 : decode cX4_stateOf 20 = .ok (.iload_n 2, 1) := by decide +kernel
theorem dX4_stateOf_21 : decode cX4_stateOf 21 = .ok (.ifCond .ne 10, 3) := by decide +kernel
theorem dX4_stateOf_24 : decode cX4_stateOf 24 = .ok (.aload_n 3, 1) := by decide +kernel
theorem dX4_stateOf_25 : decode cX4_stateOf 25 = .ok (.getfield 287, 3) := by decide +kernel
theorem dX4_stateOf_28 : decode cX4_stateOf 28 = .ok (.goto 7, 3) := by decide +kernel
theorem dX4_stateOf_31 : decode cX4_stateOf 31 = .ok (.aload_n 3, 1) := by decide +kernel
theorem dX4_stateOf_32 : decode cX4_stateOf 32 = .ok (.getfield 290, 3) := by decide +kernel
theorem dX4_stateOf_35 : decode cX4_stateOf 35 = .ok (.ireturn, 1) := by decide +kernel
theorem dX4_stateOf_36 : decode cX4_stateOf 36 = .ok (.iload_n 2, 1) := by decide +kernel
theorem dX4_stateOf_37 : decode cX4_stateOf 37 = .ok (.iconst 2, 1) := by decide +kernel
theorem dX4_stateOf_38 : decode cX4_stateOf 38 = .ok (.if_icmp .ne 10, 3) := by decide +kernel
theorem dX4_stateOf_41 : decode cX4_stateOf 41 = .ok (.aload_n 3, 1) := by decide +kernel
theorem dX4_stateOf_42 : decode cX4_stateOf 42 = .ok (.getfield 269, 3) := by decide +kernel
theorem dX4_stateOf_45 : decode cX4_stateOf 45 = .ok (.goto 7, 3) := by decide +kernel
theorem dX4_stateOf_48 : decode cX4_stateOf 48 = .ok (.aload_n 3, 1) := by decide +kernel
theorem dX4_stateOf_49 : decode cX4_stateOf 49 = .ok (.getfield 275, 3) := by decide +kernel
theorem dX4_stateOf_52 : decode cX4_stateOf 52 = .ok (.ireturn, 1) := by decide +kernel
theorem dX4_predicted_0 : decode cX4_predicted 0 = .ok (.aload_n 0, 1) := by decide +kernel
theorem dX4_predicted_1 : decode cX4_predicted 1 = .ok (.iload_n 1, 1) := by decide +kernel
theorem dX4_predicted_2 : decode cX4_predicted 2 = .ok (.invokevirtual 278, 3) := by decide +kernel
theorem dX4_predicted_5 : decode cX4_predicted 5 = .ok (.astore 4, 2) := by decide +kernel
theorem dX4_predicted_7 : decode cX4_predicted 7 = .ok (.iload_n 2, 1) := by decide +kernel
theorem dX4_predicted_8 : decode cX4_predicted 8 = .ok (.invokestatic 293, 3) := by decide +kernel
theorem dX4_predicted_11 : decode cX4_predicted 11 = .ok (.invokestatic 60, 3) := by decide +kernel
theorem dX4_predicted_14 : decode cX4_predicted 14 = .ok (.iload_n 3, 1) := by decide +kernel
theorem dX4_predicted_15 : decode cX4_predicted 15 = .ok (.ifCond .eq 12, 3) := by decide +kernel
theorem dX4_predicted_18 : decode cX4_predicted 18 = .ok (.aload 4, 2) := by decide +kernel
theorem dX4_predicted_20 : decode cX4_predicted 20 = .ok (.iload_n 2, 1) := by decide +kernel
theorem dX4_predicted_21 : decode cX4_predicted 21 = .ok (.invokevirtual 262, 3) := by decide +kernel
theorem dX4_predicted_24 : decode cX4_predicted 24 = .ok (.goto 9, 3) := by decide +kernel
theorem dX4_predicted_27 : decode cX4_predicted 27 = .ok (.aload 4, 2) := by decide +kernel
theorem dX4_predicted_29 : decode cX4_predicted 29 = .ok (.iload_n 2, 1) := by decide +kernel
theorem dX4_predicted_30 : decode cX4_predicted 30 = .ok (.invokevirtual 259, 3) := by decide +kernel
theorem dX4_predicted_33 : decode cX4_predicted 33 = .ok (.bipush 16, 2) := by decide +kernel
theorem dX4_predicted_35 : decode cX4_predicted 35 = .ok (.invokestatic 296, 3) := by decide +kernel
theorem dX4_predicted_38 : decode cX4_predicted 38 = .ok (.ireturn, 1) := by decide +kernel
theorem dX4_hits_0 : decode cX4_hits 0 = .ok (.aload_n 0, 1) := by decide +kernel
theorem dX4_hits_1 : decode cX4_hits 1 = .ok (.iload_n 1, 1) := by decide +kernel
theorem dX4_hits_2 : decode cX4_hits 2 = .ok (.invokevirtual 278, 3) := by decide +kernel
theorem dX4_hits_5 : decode cX4_hits 5 = .ok (.getfield 281, 3) := by decide +kernel
theorem dX4_hits_8 : decode cX4_hits 8 = .ok (.ireturn, 1) := by decide +kernel
theorem dX4_misses_0 : decode cX4_misses 0 = .ok (.aload_n 0, 1) := by decide +kernel
theorem dX4_misses_1 : decode cX4_misses 1 = .ok (.iload_n 1, 1) := by decide +kernel
theorem dX4_misses_2 : decode cX4_misses 2 = .ok (.invokevirtual 278, 3) := by decide +kernel
theorem dX4_misses_5 : decode cX4_misses 5 = .ok (.getfield 299, 3) := by decide +kernel
theorem dX4_misses_8 : decode cX4_misses 8 = .ok (.ireturn, 1) := by decide +kernel
theorem dX4_mergedInto_0 : decode cX4_mergedInto 0 = .ok (.aload_n 0, 1) := by decide +kernel
theorem dX4_mergedInto_1 : decode cX4_mergedInto 1 = .ok (.iload_n 1, 1) := by decide +kernel
theorem dX4_mergedInto_2 : decode cX4_mergedInto 2 = .ok (.invokevirtual 278, 3) := by decide +kernel
theorem dX4_mergedInto_5 : decode cX4_mergedInto 5 = .ok (.astore_n 2, 1) := by decide +kernel
theorem dX4_mergedInto_6 : decode cX4_mergedInto 6 = .ok (.aload_n 2, 1) := by decide +kernel
theorem dX4_mergedInto_7 : decode cX4_mergedInto 7 = .ok (.getfield 284, 3) := by decide +kernel
theorem dX4_mergedInto_10 : decode cX4_mergedInto 10 = .ok (.iconst (-1), 1) := by decide +kernel
theorem dX4_mergedInto_11 : decode cX4_mergedInto 11 = .ok (.if_icmp .ne 14, 3) := by decide +kernel
theorem dX4_mergedInto_14 : decode cX4_mergedInto 14 = .ok (.new 302, 3) := by decide +kernel
theorem dX4_mergedInto_17 : decode cX4_mergedInto 17 = .ok (.dup, 1) := by decide +kernel
theorem dX4_mergedInto_18 : decode cX4_mergedInto 18 = .ok (.ldc_w 304, 3) := by decide +kernel
theorem dX4_mergedInto_21 : decode cX4_mergedInto 21 = .ok (.invokespecial 306, 3) := by decide +kernel
theorem dX4_mergedInto_24 : decode cX4_mergedInto 24 = .ok (.athrow, 1) := by decide +kernel
theorem dX4_mergedInto_25 : decode cX4_mergedInto 25 = .ok (.aload_n 2, 1) := by decide +kernel
theorem dX4_mergedInto_26 : decode cX4_mergedInto 26 = .ok (.getfield 284, 3) := by decide +kernel
theorem dX4_mergedInto_29 : decode cX4_mergedInto 29 = .ok (.ireturn, 1) := by decide +kernel
theorem dX4_historyLength_0 : decode cX4_historyLength 0 = .ok (.aload_n 0, 1) := by decide +kernel
theorem dX4_historyLength_1 : decode cX4_historyLength 1 = .ok (.iload_n 1, 1) := by decide +kernel
theorem dX4_historyLength_2 : decode cX4_historyLength 2 = .ok (.invokevirtual 278, 3) := by decide +kernel
theorem dX4_historyLength_5 : decode cX4_historyLength 5 = .ok (.getfield 307, 3) := by decide +kernel
theorem dX4_historyLength_8 : decode cX4_historyLength 8 = .ok (.ireturn, 1) := by decide +kernel
theorem dX4_historyAt_0 : decode cX4_historyAt 0 = .ok (.aload_n 0, 1) := by decide +kernel
theorem dX4_historyAt_1 : decode cX4_historyAt 1 = .ok (.iload_n 1, 1) := by decide +kernel
theorem dX4_historyAt_2 : decode cX4_historyAt 2 = .ok (.invokevirtual 278, 3) := by decide +kernel
theorem dX4_historyAt_5 : decode cX4_historyAt 5 = .ok (.astore_n 3, 1) := by decide +kernel
theorem dX4_historyAt_6 : decode cX4_historyAt 6 = .ok (.iload_n 2, 1) := by decide +kernel
theorem dX4_historyAt_7 : decode cX4_historyAt 7 = .ok (.ifCond .lt 20, 3) := by decide +kernel
theorem dX4_historyAt_10 : decode cX4_historyAt 10 = .ok (.iload_n 2, 1) := by decide +kernel
theorem dX4_historyAt_11 : decode cX4_historyAt 11 = .ok (.aload_n 3, 1) := by decide +kernel
theorem dX4_historyAt_12 : decode cX4_historyAt 12 = .ok (.getfield 307, 3) := by decide +kernel
theorem dX4_historyAt_15 : decode cX4_historyAt 15 = .ok (.if_icmp .ge 12, 3) := by decide +kernel
theorem dX4_historyAt_18 : decode cX4_historyAt 18 = .ok (.iload_n 2, 1) := by decide +kernel
theorem dX4_historyAt_19 : decode cX4_historyAt 19 = .ok (.aload_n 3, 1) := by decide +kernel
theorem dX4_historyAt_20 : decode cX4_historyAt 20 = .ok (.getfield 310, 3) := by decide +kernel
theorem dX4_historyAt_23 : decode cX4_historyAt 23 = .ok (.arraylength, 1) := by decide +kernel
theorem dX4_historyAt_24 : decode cX4_historyAt 24 = .ok (.if_icmp .lt 14, 3) := by decide +kernel
theorem dX4_historyAt_27 : decode cX4_historyAt 27 = .ok (.new 302, 3) := by decide +kernel
theorem dX4_historyAt_30 : decode cX4_historyAt 30 = .ok (.dup, 1) := by decide +kernel
theorem dX4_historyAt_31 : decode cX4_historyAt 31 = .ok (.ldc_w 314, 3) := by decide +kernel
theorem dX4_historyAt_34 : decode cX4_historyAt 34 = .ok (.invokespecial 306, 3) := by decide +kernel
theorem dX4_historyAt_37 : decode cX4_historyAt 37 = .ok (.athrow, 1) := by decide +kernel
theorem dX4_historyAt_38 : decode cX4_historyAt 38 = .ok (.aload_n 3, 1) := by decide +kernel
theorem dX4_historyAt_39 : decode cX4_historyAt 39 = .ok (.getfield 310, 3) := by decide +kernel
theorem dX4_historyAt_42 : decode cX4_historyAt 42 = .ok (.iload_n 2, 1) := by decide +kernel
theorem dX4_historyAt_43 : decode cX4_historyAt 43 = .ok (.caload, 1) := by decide +kernel
theorem dX4_historyAt_44 : decode cX4_historyAt 44 = .ok (.ireturn, 1) := by decide +kernel
theorem dX4_quality_0 : decode cX4_quality 0 = .ok (.aload_n 0, 1) := by decide +kernel
theorem dX4_quality_1 : decode cX4_quality 1 = .ok (.iload_n 1, 1) := by decide +kernel
theorem dX4_quality_2 : decode cX4_quality 2 = .ok (.invokevirtual 278, 3) := by decide +kernel
theorem dX4_quality_5 : decode cX4_quality 5 = .ok (.astore_n 2, 1) := by decide +kernel
theorem dX4_quality_6 : decode cX4_quality 6 = .ok (.aload_n 2, 1) := by decide +kernel
theorem dX4_quality_7 : decode cX4_quality 7 = .ok (.getfield 307, 3) := by decide +kernel
theorem dX4_quality_10 : decode cX4_quality 10 = .ok (.bipush 8, 2) := by decide +kernel
theorem dX4_quality_12 : decode cX4_quality 12 = .ok (.isub, 1) := by decide +kernel
theorem dX4_quality_13 : decode cX4_quality 13 = .ok (.istore_n 3, 1) := by decide +kernel
theorem dX4_quality_14 : decode cX4_quality 14 = .ok (.aload_n 2, 1) := by decide +kernel
theorem dX4_quality_15 : decode cX4_quality 15 = .ok (.iload_n 3, 1) := by decide +kernel
theorem dX4_quality_16 : decode cX4_quality 16 = .ok (.bipush 110, 2) := by decide +kernel
theorem dX4_quality_18 : decode cX4_quality 18 = .ok (.invokevirtual 316, 3) := by decide +kernel
theorem dX4_quality_21 : decode cX4_quality 21 = .ok (.aload_n 2, 1) := by decide +kernel
theorem dX4_quality_22 : decode cX4_quality 22 = .ok (.iload_n 3, 1) := by decide +kernel
theorem dX4_quality_23 : decode cX4_quality 23 = .ok (.bipush 104, 2) := by decide +kernel
theorem dX4_quality_25 : decode cX4_quality 25 = .ok (.invokevirtual 316, 3) := by decide +kernel
theorem dX4_quality_28 : decode cX4_quality 28 = .ok (.iadd, 1) := by decide +kernel
theorem dX4_quality_29 : decode cX4_quality 29 = .ok (.ireturn, 1) := by decide +kernel
theorem dX4_countOf_0 : decode cX4_countOf 0 = .ok (.ldc_w 320, 3) := by decide +kernel
theorem dX4_countOf_3 : decode cX4_countOf 3 = .ok (.iload_n 1, 1) := by decide +kernel
theorem dX4_countOf_4 : decode cX4_countOf 4 = .ok (.invokevirtual 322, 3) := by decide +kernel
theorem dX4_countOf_7 : decode cX4_countOf 7 = .ok (.ifCond .lt 7, 3) := by decide +kernel
theorem dX4_countOf_10 : decode cX4_countOf 10 = .ok (.iconst 1, 1) := by decide +kernel
theorem dX4_countOf_11 : decode cX4_countOf 11 = .ok (.goto 4, 3) := by decide +kernel
theorem dX4_countOf_14 : decode cX4_countOf 14 = .ok (.iconst 0, 1) := by decide +kernel
theorem dX4_countOf_15 : decode cX4_countOf 15 = .ok (.invokestatic 60, 3) := by decide +kernel
theorem dX4_countOf_18 : decode cX4_countOf 18 = .ok (.aload_n 0, 1) := by decide +kernel
theorem dX4_countOf_19 : decode cX4_countOf 19 = .ok (.iload_n 1, 1) := by decide +kernel
theorem dX4_countOf_20 : decode cX4_countOf 20 = .ok (.invokevirtual 327, 3) := by decide +kernel
theorem dX4_countOf_23 : decode cX4_countOf 23 = .ok (.ireturn, 1) := by decide +kernel
theorem dX4_nearest_0 : decode cX4_nearest 0 = .ok (.iload_n 1, 1) := by decide +kernel
theorem dX4_nearest_1 : decode cX4_nearest 1 = .ok (.invokestatic 293, 3) := by decide +kernel
theorem dX4_nearest_4 : decode cX4_nearest 4 = .ok (.ifCond .eq 21, 3) := by decide +kernel
theorem dX4_nearest_7 : decode cX4_nearest 7 = .ok (.iload_n 2, 1) := by decide +kernel
theorem dX4_nearest_8 : decode cX4_nearest 8 = .ok (.invokestatic 90, 3) := by decide +kernel
theorem dX4_nearest_11 : decode cX4_nearest 11 = .ok (.ifCond .eq 14, 3) := by decide +kernel
theorem dX4_nearest_14 : decode cX4_nearest 14 = .ok (.iload_n 3, 1) := by decide +kernel
theorem dX4_nearest_15 : decode cX4_nearest 15 = .ok (.invokestatic 90, 3) := by decide +kernel
theorem dX4_nearest_18 : decode cX4_nearest 18 = .ok (.ifCond .eq 7, 3) := by decide +kernel
theorem dX4_nearest_21 : decode cX4_nearest 21 = .ok (.iconst 1, 1) := by decide +kernel
theorem dX4_nearest_22 : decode cX4_nearest 22 = .ok (.goto 4, 3) := by decide +kernel
theorem dX4_nearest_25 : decode cX4_nearest 25 = .ok (.iconst 0, 1) := by decide +kernel
theorem dX4_nearest_26 : decode cX4_nearest 26 = .ok (.invokestatic 60, 3) := by decide +kernel
theorem dX4_nearest_29 : decode cX4_nearest 29 = .ok (.iconst (-1), 1) := by decide +kernel
theorem dX4_nearest_30 : decode cX4_nearest 30 = .ok (.istore 4, 2) := by decide +kernel
theorem dX4_nearest_32 : decode cX4_nearest 32 = .ok (.lconst 0, 1) := by decide +kernel
theorem dX4_nearest_33 : decode cX4_nearest 33 = .ok (.lstore 5, 2) := by decide +kernel
theorem dX4_nearest_35 : decode cX4_nearest 35 = .ok (.iconst 0, 1) := by decide +kernel
theorem dX4_nearest_36 : decode cX4_nearest 36 = .ok (.istore 7, 2) := by decide +kernel
theorem dX4_nearest_38 : decode cX4_nearest 38 = .ok (.iload 7, 2) := by decide +kernel
theorem dX4_nearest_40 : decode cX4_nearest 40 = .ok (.aload_n 0, 1) := by decide +kernel
theorem dX4_nearest_41 : decode cX4_nearest 41 = .ok (.getfield 181, 3) := by decide +kernel
theorem dX4_nearest_44 : decode cX4_nearest 44 = .ok (.if_icmp .ge 85, 3) := by decide +kernel
theorem dX4_nearest_47 : decode cX4_nearest 47 = .ok (.iload 7, 2) := by decide +kernel
theorem dX4_nearest_49 : decode cX4_nearest 49 = .ok (.aload_n 0, 1) := by decide +kernel
theorem dX4_nearest_50 : decode cX4_nearest 50 = .ok (.getfield 23, 3) := by decide +kernel
theorem dX4_nearest_53 : decode cX4_nearest 53 = .ok (.arraylength, 1) := by decide +kernel
theorem dX4_nearest_54 : decode cX4_nearest 54 = .ok (.if_icmp .ge 75, 3) := by decide +kernel
theorem dX4_nearest_57 : decode cX4_nearest 57 = .ok (.aload_n 0, 1) := by decide +kernel
theorem dX4_nearest_58 : decode cX4_nearest 58 = .ok (.getfield 23, 3) := by decide +kernel
theorem dX4_nearest_61 : decode cX4_nearest 61 = .ok (.iload 7, 2) := by decide +kernel
theorem dX4_nearest_63 : decode cX4_nearest 63 = .ok (.aaload, 1) := by decide +kernel
theorem dX4_nearest_64 : decode cX4_nearest 64 = .ok (.astore 8, 2) := by decide +kernel
theorem dX4_nearest_66 : decode cX4_nearest 66 = .ok (.aload 8, 2) := by decide +kernel
theorem dX4_nearest_68 : decode cX4_nearest 68 = .ok (.getfield 184, 3) := by decide +kernel
theorem dX4_nearest_71 : decode cX4_nearest 71 = .ok (.ifCond .eq 52, 3) := by decide +kernel
theorem dX4_nearest_74 : decode cX4_nearest 74 = .ok (.bipush 16, 2) := by decide +kernel
theorem dX4_nearest_76 : decode cX4_nearest 76 = .ok (.iload_n 2, 1) := by decide +kernel
theorem dX4_nearest_77 : decode cX4_nearest 77 = .ok (.imul, 1) := by decide +kernel
theorem dX4_nearest_78 : decode cX4_nearest 78 = .ok (.aload 8, 2) := by decide +kernel
theorem dX4_nearest_80 : decode cX4_nearest 80 = .ok (.iload_n 1, 1) := by decide +kernel
theorem dX4_nearest_81 : decode cX4_nearest 81 = .ok (.invokevirtual 259, 3) := by decide +kernel
theorem dX4_nearest_84 : decode cX4_nearest 84 = .ok (.isub, 1) := by decide +kernel
theorem dX4_nearest_85 : decode cX4_nearest 85 = .ok (.bipush 16, 2) := by decide +kernel
theorem dX4_nearest_87 : decode cX4_nearest 87 = .ok (.iload_n 3, 1) := by decide +kernel
theorem dX4_nearest_88 : decode cX4_nearest 88 = .ok (.imul, 1) := by decide +kernel
theorem dX4_nearest_89 : decode cX4_nearest 89 = .ok (.aload 8, 2) := by decide +kernel
theorem dX4_nearest_91 : decode cX4_nearest 91 = .ok (.iload_n 1, 1) := by decide +kernel
theorem dX4_nearest_92 : decode cX4_nearest 92 = .ok (.invokevirtual 262, 3) := by decide +kernel
theorem dX4_nearest_95 : decode cX4_nearest 95 = .ok (.isub, 1) := by decide +kernel
theorem dX4_nearest_96 : decode cX4_nearest 96 = .ok (.invokestatic 265, 3) := by decide +kernel
theorem dX4_nearest_99 : decode cX4_nearest 99 = .ok (.lstore 9, 2) := by decide +kernel
theorem dX4_nearest_101 : decode cX4_nearest 101 = .ok (.iload 4, 2) := by decide +kernel
theorem dX4_nearest_103 : decode cX4_nearest 103 = .ok (.iconst (-1), 1) := by decide +kernel
theorem dX4_nearest_104 : decode cX4_nearest 104 = .ok (.if_icmp .eq 11, 3) := by decide +kernel
theorem dX4_nearest_107 : decode cX4_nearest 107 = .ok (.lload 9, 2) := by decide +kernel
theorem dX4_nearest_109 : decode cX4_nearest 109 = .ok (.lload 5, 2) := by decide +kernel
theorem dX4_nearest_111 : decode cX4_nearest 111 = .ok (.lcmp, 1) := by decide +kernel
theorem dX4_nearest_112 : decode cX4_nearest 112 = .ok (.ifCond .ge 11, 3) := by decide +kernel
theorem dX4_nearest_115 : decode cX4_nearest 115 = .ok (.iload 7, 2) := by decide +kernel
theorem dX4_nearest_117 : decode cX4_nearest 117 = .ok (.istore 4, 2) := by decide +kernel
theorem dX4_nearest_119 : decode cX4_nearest 119 = .ok (.lload 9, 2) := by decide +kernel
theorem dX4_nearest_121 : decode cX4_nearest 121 = .ok (.lstore 5, 2) := by decide +kernel
theorem dX4_nearest_123 : decode cX4_nearest 123 = .ok (.iinc 7 1, 3) := by decide +kernel
theorem dX4_nearest_126 : decode cX4_nearest 126 = .ok (.goto (-88), 3) := by decide +kernel
theorem dX4_nearest_129 : decode cX4_nearest 129 = .ok (.iload 4, 2) := by decide +kernel
theorem dX4_nearest_131 : decode cX4_nearest 131 = .ok (.iconst (-1), 1) := by decide +kernel
theorem dX4_nearest_132 : decode cX4_nearest 132 = .ok (.if_icmp .ne 14, 3) := by decide +kernel
theorem dX4_nearest_135 : decode cX4_nearest 135 = .ok (.new 302, 3) := by decide +kernel
theorem dX4_nearest_138 : decode cX4_nearest 138 = .ok (.dup, 1) := by decide +kernel
theorem dX4_nearest_139 : decode cX4_nearest 139 = .ok (.ldc_w 331, 3) := by decide +kernel
theorem dX4_nearest_142 : decode cX4_nearest 142 = .ok (.invokespecial 306, 3) := by decide +kernel
theorem dX4_nearest_145 : decode cX4_nearest 145 = .ok (.athrow, 1) := by decide +kernel
theorem dX4_nearest_146 : decode cX4_nearest 146 = .ok (.iload 4, 2) := by decide +kernel
theorem dX4_nearest_148 : decode cX4_nearest 148 = .ok (.ireturn, 1) := by decide +kernel
theorem dX4_trackNumbered_0 : decode cX4_trackNumbered 0 = .ok (.iload_n 1, 1) := by decide +kernel
theorem dX4_trackNumbered_1 : decode cX4_trackNumbered 1 = .ok (.ifCond .lt 20, 3) := by decide +kernel
theorem dX4_trackNumbered_4 : decode cX4_trackNumbered 4 = .ok (.iload_n 1, 1) := by decide +kernel
theorem dX4_trackNumbered_5 : decode cX4_trackNumbered 5 = .ok (.aload_n 0, 1) := by decide +kernel
theorem dX4_trackNumbered_6 : decode cX4_trackNumbered 6 = .ok (.getfield 181, 3) := by decide +kernel
theorem dX4_trackNumbered_9 : decode cX4_trackNumbered 9 = .ok (.if_icmp .ge 12, 3) := by decide +kernel
theorem dX4_trackNumbered_12 : decode cX4_trackNumbered 12 = .ok (.iload_n 1, 1) := by decide +kernel
theorem dX4_trackNumbered_13 : decode cX4_trackNumbered 13 = .ok (.aload_n 0, 1) := by decide +kernel
theorem dX4_trackNumbered_14 : decode cX4_trackNumbered 14 = .ok (.getfield 23, 3) := by decide +kernel
theorem dX4_trackNumbered_17 : decode cX4_trackNumbered 17 = .ok (.arraylength, 1) := by decide +kernel
theorem dX4_trackNumbered_18 : decode cX4_trackNumbered 18 = .ok (.if_icmp .lt 14, 3) := by decide +kernel
theorem dX4_trackNumbered_21 : decode cX4_trackNumbered 21 = .ok (.new 79, 3) := by decide +kernel
theorem dX4_trackNumbered_24 : decode cX4_trackNumbered 24 = .ok (.dup, 1) := by decide +kernel
theorem dX4_trackNumbered_25 : decode cX4_trackNumbered 25 = .ok (.ldc_w 333, 3) := by decide +kernel
theorem dX4_trackNumbered_28 : decode cX4_trackNumbered 28 = .ok (.invokespecial 83, 3) := by decide +kernel
theorem dX4_trackNumbered_31 : decode cX4_trackNumbered 31 = .ok (.athrow, 1) := by decide +kernel
theorem dX4_trackNumbered_32 : decode cX4_trackNumbered 32 = .ok (.aload_n 0, 1) := by decide +kernel
theorem dX4_trackNumbered_33 : decode cX4_trackNumbered 33 = .ok (.getfield 23, 3) := by decide +kernel
theorem dX4_trackNumbered_36 : decode cX4_trackNumbered 36 = .ok (.iload_n 1, 1) := by decide +kernel
theorem dX4_trackNumbered_37 : decode cX4_trackNumbered 37 = .ok (.aaload, 1) := by decide +kernel
theorem dX4_trackNumbered_38 : decode cX4_trackNumbered 38 = .ok (.areturn, 1) := by decide +kernel
theorem dX4_liveNumbered_0 : decode cX4_liveNumbered 0 = .ok (.iload_n 1, 1) := by decide +kernel
theorem dX4_liveNumbered_1 : decode cX4_liveNumbered 1 = .ok (.ifCond .lt 32, 3) := by decide +kernel
theorem dX4_liveNumbered_4 : decode cX4_liveNumbered 4 = .ok (.iload_n 1, 1) := by decide +kernel
theorem dX4_liveNumbered_5 : decode cX4_liveNumbered 5 = .ok (.aload_n 0, 1) := by decide +kernel
theorem dX4_liveNumbered_6 : decode cX4_liveNumbered 6 = .ok (.getfield 181, 3) := by decide +kernel
theorem dX4_liveNumbered_9 : decode cX4_liveNumbered 9 = .ok (.if_icmp .ge 24, 3) := by decide +kernel
theorem dX4_liveNumbered_12 : decode cX4_liveNumbered 12 = .ok (.iload_n 1, 1) := by decide +kernel
theorem dX4_liveNumbered_13 : decode cX4_liveNumbered 13 = .ok (.aload_n 0, 1) := by decide +kernel
theorem dX4_liveNumbered_14 : decode cX4_liveNumbered 14 = .ok (.getfield 23, 3) := by decide +kernel
theorem dX4_liveNumbered_17 : decode cX4_liveNumbered 17 = .ok (.arraylength, 1) := by decide +kernel
theorem dX4_liveNumbered_18 : decode cX4_liveNumbered 18 = .ok (.if_icmp .ge 15, 3) := by decide +kernel
theorem dX4_liveNumbered_21 : decode cX4_liveNumbered 21 = .ok (.aload_n 0, 1) := by decide +kernel
theorem dX4_liveNumbered_22 : decode cX4_liveNumbered 22 = .ok (.getfield 23, 3) := by decide +kernel
theorem dX4_liveNumbered_25 : decode cX4_liveNumbered 25 = .ok (.iload_n 1, 1) := by decide +kernel
theorem dX4_liveNumbered_26 : decode cX4_liveNumbered 26 = .ok (.aaload, 1) := by decide +kernel
theorem dX4_liveNumbered_27 : decode cX4_liveNumbered 27 = .ok (.getfield 184, 3) := by decide +kernel
theorem dX4_liveNumbered_30 : decode cX4_liveNumbered 30 = .ok (.ifCond .ne 14, 3) := by decide +kernel
theorem dX4_liveNumbered_33 : decode cX4_liveNumbered 33 = .ok (.new 302, 3) := by decide +kernel
theorem dX4_liveNumbered_36 : decode cX4_liveNumbered 36 = .ok (.dup, 1) := by decide +kernel
theorem dX4_liveNumbered_37 : decode cX4_liveNumbered 37 = .ok (.ldc_w 335, 3) := by decide +kernel
theorem dX4_liveNumbered_40 : decode cX4_liveNumbered 40 = .ok (.invokespecial 306, 3) := by decide +kernel
theorem dX4_liveNumbered_43 : decode cX4_liveNumbered 43 = .ok (.athrow, 1) := by decide +kernel
theorem dX4_liveNumbered_44 : decode cX4_liveNumbered 44 = .ok (.aload_n 0, 1) := by decide +kernel
theorem dX4_liveNumbered_45 : decode cX4_liveNumbered 45 = .ok (.getfield 23, 3) := by decide +kernel
theorem dX4_liveNumbered_48 : decode cX4_liveNumbered 48 = .ok (.iload_n 1, 1) := by decide +kernel
theorem dX4_liveNumbered_49 : decode cX4_liveNumbered 49 = .ok (.aaload, 1) := by decide +kernel
theorem dX4_liveNumbered_50 : decode cX4_liveNumbered 50 = .ok (.areturn, 1) := by decide +kernel
theorem dX4_countLive_0 : decode cX4_countLive 0 = .ok (.iconst 0, 1) := by decide +kernel
theorem dX4_countLive_1 : decode cX4_countLive 1 = .ok (.istore_n 1, 1) := by decide +kernel
theorem dX4_countLive_2 : decode cX4_countLive 2 = .ok (.iconst 0, 1) := by decide +kernel
theorem dX4_countLive_3 : decode cX4_countLive 3 = .ok (.istore_n 2, 1) := by decide +kernel
theorem dX4_countLive_4 : decode cX4_countLive 4 = .ok (.iload_n 2, 1) := by decide +kernel
theorem dX4_countLive_5 : decode cX4_countLive 5 = .ok (.aload_n 0, 1) := by decide +kernel
theorem dX4_countLive_6 : decode cX4_countLive 6 = .ok (.getfield 181, 3) := by decide +kernel
theorem dX4_countLive_9 : decode cX4_countLive 9 = .ok (.if_icmp .ge 33, 3) := by decide +kernel
theorem dX4_countLive_12 : decode cX4_countLive 12 = .ok (.iload_n 2, 1) := by decide +kernel
theorem dX4_countLive_13 : decode cX4_countLive 13 = .ok (.aload_n 0, 1) := by decide +kernel
theorem dX4_countLive_14 : decode cX4_countLive 14 = .ok (.getfield 23, 3) := by decide +kernel
theorem dX4_countLive_17 : decode cX4_countLive 17 = .ok (.arraylength, 1) := by decide +kernel
theorem dX4_countLive_18 : decode cX4_countLive 18 = .ok (.if_icmp .ge 24, 3) := by decide +kernel
theorem dX4_countLive_21 : decode cX4_countLive 21 = .ok (.aload_n 0, 1) := by decide +kernel
theorem dX4_countLive_22 : decode cX4_countLive 22 = .ok (.getfield 23, 3) := by decide +kernel
theorem dX4_countLive_25 : decode cX4_countLive 25 = .ok (.iload_n 2, 1) := by decide +kernel
theorem dX4_countLive_26 : decode cX4_countLive 26 = .ok (.aaload, 1) := by decide +kernel
theorem dX4_countLive_27 : decode cX4_countLive 27 = .ok (.getfield 184, 3) := by decide +kernel
theorem dX4_countLive_30 : decode cX4_countLive 30 = .ok (.ifCond .eq 6, 3) := by decide +kernel
theorem dX4_countLive_33 : decode cX4_countLive 33 = .ok (.iinc 1 1, 3) := by decide +kernel
theorem dX4_countLive_36 : decode cX4_countLive 36 = .ok (.iinc 2 1, 3) := by decide +kernel
theorem dX4_countLive_39 : decode cX4_countLive 39 = .ok (.goto (-35), 3) := by decide +kernel
theorem dX4_countLive_42 : decode cX4_countLive 42 = .ok (.iload_n 1, 1) := by decide +kernel
theorem dX4_countLive_43 : decode cX4_countLive 43 = .ok (.ireturn, 1) := by decide +kernel
theorem dX4_countSigns_0 : decode cX4_countSigns 0 = .ok (.iconst 0, 1) := by decide +kernel
theorem dX4_countSigns_1 : decode cX4_countSigns 1 = .ok (.istore_n 2, 1) := by decide +kernel
theorem dX4_countSigns_2 : decode cX4_countSigns 2 = .ok (.iconst 0, 1) := by decide +kernel
theorem dX4_countSigns_3 : decode cX4_countSigns 3 = .ok (.istore_n 3, 1) := by decide +kernel
theorem dX4_countSigns_4 : decode cX4_countSigns 4 = .ok (.iload_n 3, 1) := by decide +kernel
theorem dX4_countSigns_5 : decode cX4_countSigns 5 = .ok (.aload_n 0, 1) := by decide +kernel
theorem dX4_countSigns_6 : decode cX4_countSigns 6 = .ok (.getfield 181, 3) := by decide +kernel
theorem dX4_countSigns_9 : decode cX4_countSigns 9 = .ok (.if_icmp .ge 32, 3) := by decide +kernel
theorem dX4_countSigns_12 : decode cX4_countSigns 12 = .ok (.iload_n 3, 1) := by decide +kernel
theorem dX4_countSigns_13 : decode cX4_countSigns 13 = .ok (.aload_n 0, 1) := by decide +kernel
theorem dX4_countSigns_14 : decode cX4_countSigns 14 = .ok (.getfield 23, 3) := by decide +kernel
theorem dX4_countSigns_17 : decode cX4_countSigns 17 = .ok (.arraylength, 1) := by decide +kernel
theorem dX4_countSigns_18 : decode cX4_countSigns 18 = .ok (.if_icmp .ge 23, 3) := by decide +kernel
theorem dX4_countSigns_21 : decode cX4_countSigns 21 = .ok (.iload_n 2, 1) := by decide +kernel
theorem dX4_countSigns_22 : decode cX4_countSigns 22 = .ok (.aload_n 0, 1) := by decide +kernel
theorem dX4_countSigns_23 : decode cX4_countSigns 23 = .ok (.getfield 23, 3) := by decide +kernel
theorem dX4_countSigns_26 : decode cX4_countSigns 26 = .ok (.iload_n 3, 1) := by decide +kernel
theorem dX4_countSigns_27 : decode cX4_countSigns 27 = .ok (.aaload, 1) := by decide +kernel
theorem dX4_countSigns_28 : decode cX4_countSigns 28 = .ok (.iconst 0, 1) := by decide +kernel
theorem dX4_countSigns_29 : decode cX4_countSigns 29 = .ok (.iload_n 1, 1) := by decide +kernel
theorem dX4_countSigns_30 : decode cX4_countSigns 30 = .ok (.invokevirtual 316, 3) := by decide +kernel
theorem dX4_countSigns_33 : decode cX4_countSigns 33 = .ok (.iadd, 1) := by decide +kernel
theorem dX4_countSigns_34 : decode cX4_countSigns 34 = .ok (.istore_n 2, 1) := by decide +kernel
theorem dX4_countSigns_35 : decode cX4_countSigns 35 = .ok (.iinc 3 1, 3) := by decide +kernel
theorem dX4_countSigns_38 : decode cX4_countSigns 38 = .ok (.goto (-34), 3) := by decide +kernel
theorem dX4_countSigns_41 : decode cX4_countSigns 41 = .ok (.iload_n 2, 1) := by decide +kernel
theorem dX4_countSigns_42 : decode cX4_countSigns 42 = .ok (.ireturn, 1) := by decide +kernel
theorem dX4_dropped_0 : decode cX4_dropped 0 = .ok (.aload_n 0, 1) := by decide +kernel
theorem dX4_dropped_1 : decode cX4_dropped 1 = .ok (.getfield 236, 3) := by decide +kernel
theorem dX4_dropped_4 : decode cX4_dropped 4 = .ok (.ireturn, 1) := by decide +kernel
theorem dX4_isBalanced_0 : decode cX4_isBalanced 0 = .ok (.aload_n 0, 1) := by decide +kernel
theorem dX4_isBalanced_1 : decode cX4_isBalanced 1 = .ok (.getfield 123, 3) := by decide +kernel
theorem dX4_isBalanced_4 : decode cX4_isBalanced 4 = .ok (.aload_n 0, 1) := by decide +kernel
theorem dX4_isBalanced_5 : decode cX4_isBalanced 5 = .ok (.bipush 110, 2) := by decide +kernel
theorem dX4_isBalanced_7 : decode cX4_isBalanced 7 = .ok (.invokevirtual 327, 3) := by decide +kernel
theorem dX4_isBalanced_10 : decode cX4_isBalanced 10 = .ok (.aload_n 0, 1) := by decide +kernel
theorem dX4_isBalanced_11 : decode cX4_isBalanced 11 = .ok (.bipush 104, 2) := by decide +kernel
theorem dX4_isBalanced_13 : decode cX4_isBalanced 13 = .ok (.invokevirtual 327, 3) := by decide +kernel
theorem dX4_isBalanced_16 : decode cX4_isBalanced 16 = .ok (.iadd, 1) := by decide +kernel
theorem dX4_isBalanced_17 : decode cX4_isBalanced 17 = .ok (.aload_n 0, 1) := by decide +kernel
theorem dX4_isBalanced_18 : decode cX4_isBalanced 18 = .ok (.getfield 236, 3) := by decide +kernel
theorem dX4_isBalanced_21 : decode cX4_isBalanced 21 = .ok (.iadd, 1) := by decide +kernel
theorem dX4_isBalanced_22 : decode cX4_isBalanced 22 = .ok (.if_icmp .ne 7, 3) := by decide +kernel
theorem dX4_isBalanced_25 : decode cX4_isBalanced 25 = .ok (.iconst 1, 1) := by decide +kernel
theorem dX4_isBalanced_26 : decode cX4_isBalanced 26 = .ok (.goto 4, 3) := by decide +kernel
theorem dX4_isBalanced_29 : decode cX4_isBalanced 29 = .ok (.iconst 0, 1) := by decide +kernel
theorem dX4_isBalanced_30 : decode cX4_isBalanced 30 = .ok (.ireturn, 1) := by decide +kernel
theorem dX4_takenShare_0 : decode cX4_takenShare 0 = .ok (.aload_n 0, 1) := by decide +kernel
theorem dX4_takenShare_1 : decode cX4_takenShare 1 = .ok (.getfield 123, 3) := by decide +kernel
theorem dX4_takenShare_4 : decode cX4_takenShare 4 = .ok (.ifCond .ne 14, 3) := by decide +kernel
theorem dX4_takenShare_7 : decode cX4_takenShare 7 = .ok (.new 337, 3) := by decide +kernel
theorem dX4_takenShare_10 : decode cX4_takenShare 10 = .ok (.dup, 1) := by decide +kernel
theorem dX4_takenShare_11 : decode cX4_takenShare 11 = .ok (.ldc_w 339, 3) := by decide +kernel
theorem dX4_takenShare_14 : decode cX4_takenShare 14 = .ok (.invokespecial 341, 3) := by decide +kernel
theorem dX4_takenShare_17 : decode cX4_takenShare 17 = .ok (.athrow, 1) := by decide +kernel
theorem dX4_takenShare_18 : decode cX4_takenShare 18 = .ok (.aload_n 0, 1) := by decide +kernel
theorem dX4_takenShare_19 : decode cX4_takenShare 19 = .ok (.bipush 104, 2) := by decide +kernel
theorem dX4_takenShare_21 : decode cX4_takenShare 21 = .ok (.invokevirtual 327, 3) := by decide +kernel
theorem dX4_takenShare_24 : decode cX4_takenShare 24 = .ok (.i2f, 1) := by decide +kernel
theorem dX4_takenShare_25 : decode cX4_takenShare 25 = .ok (.aload_n 0, 1) := by decide +kernel
theorem dX4_takenShare_26 : decode cX4_takenShare 26 = .ok (.getfield 123, 3) := by decide +kernel
theorem dX4_takenShare_29 : decode cX4_takenShare 29 = .ok (.i2f, 1) := by decide +kernel
theorem dX4_takenShare_30 : decode cX4_takenShare 30 = .ok (.fdiv, 1) := by decide +kernel
theorem dX4_takenShare_31 : decode cX4_takenShare 31 = .ok (.freturn, 1) := by decide +kernel
theorem dX4_meanHits_0 : decode cX4_meanHits 0 = .ok (.iconst 0, 1) := by decide +kernel
theorem dX4_meanHits_1 : decode cX4_meanHits 1 = .ok (.istore_n 1, 1) := by decide +kernel
theorem dX4_meanHits_2 : decode cX4_meanHits 2 = .ok (.iconst 0, 1) := by decide +kernel
theorem dX4_meanHits_3 : decode cX4_meanHits 3 = .ok (.istore_n 2, 1) := by decide +kernel
theorem dX4_meanHits_4 : decode cX4_meanHits 4 = .ok (.iconst 0, 1) := by decide +kernel
theorem dX4_meanHits_5 : decode cX4_meanHits 5 = .ok (.istore_n 3, 1) := by decide +kernel
theorem dX4_meanHits_6 : decode cX4_meanHits 6 = .ok (.iload_n 3, 1) := by decide +kernel
theorem dX4_meanHits_7 : decode cX4_meanHits 7 = .ok (.aload_n 0, 1) := by decide +kernel
theorem dX4_meanHits_8 : decode cX4_meanHits 8 = .ok (.getfield 181, 3) := by decide +kernel
theorem dX4_meanHits_11 : decode cX4_meanHits 11 = .ok (.if_icmp .ge 45, 3) := by decide +kernel
theorem dX4_meanHits_14 : decode cX4_meanHits 14 = .ok (.iload_n 3, 1) := by decide +kernel
theorem dX4_meanHits_15 : decode cX4_meanHits 15 = .ok (.aload_n 0, 1) := by decide +kernel
theorem dX4_meanHits_16 : decode cX4_meanHits 16 = .ok (.getfield 23, 3) := by decide +kernel
theorem dX4_meanHits_19 : decode cX4_meanHits 19 = .ok (.arraylength, 1) := by decide +kernel
theorem dX4_meanHits_20 : decode cX4_meanHits 20 = .ok (.if_icmp .ge 36, 3) := by decide +kernel
theorem dX4_meanHits_23 : decode cX4_meanHits 23 = .ok (.aload_n 0, 1) := by decide +kernel
theorem dX4_meanHits_24 : decode cX4_meanHits 24 = .ok (.getfield 23, 3) := by decide +kernel
theorem dX4_meanHits_27 : decode cX4_meanHits 27 = .ok (.iload_n 3, 1) := by decide +kernel
theorem dX4_meanHits_28 : decode cX4_meanHits 28 = .ok (.aaload, 1) := by decide +kernel
theorem dX4_meanHits_29 : decode cX4_meanHits 29 = .ok (.getfield 184, 3) := by decide +kernel
theorem dX4_meanHits_32 : decode cX4_meanHits 32 = .ok (.ifCond .eq 18, 3) := by decide +kernel
theorem dX4_meanHits_35 : decode cX4_meanHits 35 = .ok (.iinc 1 1, 3) := by decide +kernel
theorem dX4_meanHits_38 : decode cX4_meanHits 38 = .ok (.iload_n 2, 1) := by decide +kernel
theorem dX4_meanHits_39 : decode cX4_meanHits 39 = .ok (.aload_n 0, 1) := by decide +kernel
theorem dX4_meanHits_40 : decode cX4_meanHits 40 = .ok (.getfield 23, 3) := by decide +kernel
theorem dX4_meanHits_43 : decode cX4_meanHits 43 = .ok (.iload_n 3, 1) := by decide +kernel
theorem dX4_meanHits_44 : decode cX4_meanHits 44 = .ok (.aaload, 1) := by decide +kernel
theorem dX4_meanHits_45 : decode cX4_meanHits 45 = .ok (.getfield 281, 3) := by decide +kernel
theorem dX4_meanHits_48 : decode cX4_meanHits 48 = .ok (.iadd, 1) := by decide +kernel
theorem dX4_meanHits_49 : decode cX4_meanHits 49 = .ok (.istore_n 2, 1) := by decide +kernel
theorem dX4_meanHits_50 : decode cX4_meanHits 50 = .ok (.iinc 3 1, 3) := by decide +kernel
theorem dX4_meanHits_53 : decode cX4_meanHits 53 = .ok (.goto (-47), 3) := by decide +kernel
theorem dX4_meanHits_56 : decode cX4_meanHits 56 = .ok (.iload_n 1, 1) := by decide +kernel
theorem dX4_meanHits_57 : decode cX4_meanHits 57 = .ok (.ifCond .ne 14, 3) := by decide +kernel
theorem dX4_meanHits_60 : decode cX4_meanHits 60 = .ok (.new 337, 3) := by decide +kernel
theorem dX4_meanHits_63 : decode cX4_meanHits 63 = .ok (.dup, 1) := by decide +kernel
theorem dX4_meanHits_64 : decode cX4_meanHits 64 = .ok (.ldc_w 331, 3) := by decide +kernel
theorem dX4_meanHits_67 : decode cX4_meanHits 67 = .ok (.invokespecial 341, 3) := by decide +kernel
theorem dX4_meanHits_70 : decode cX4_meanHits 70 = .ok (.athrow, 1) := by decide +kernel
theorem dX4_meanHits_71 : decode cX4_meanHits 71 = .ok (.iload_n 2, 1) := by decide +kernel
theorem dX4_meanHits_72 : decode cX4_meanHits 72 = .ok (.i2d, 1) := by decide +kernel
theorem dX4_meanHits_73 : decode cX4_meanHits 73 = .ok (.iload_n 1, 1) := by decide +kernel
theorem dX4_meanHits_74 : decode cX4_meanHits 74 = .ok (.i2d, 1) := by decide +kernel
theorem dX4_meanHits_75 : decode cX4_meanHits 75 = .ok (.ddiv, 1) := by decide +kernel
theorem dX4_meanHits_76 : decode cX4_meanHits 76 = .ok (.dreturn, 1) := by decide +kernel
theorem dX4_refuseUnless_0 : decode cX4_refuseUnless 0 = .ok (.iload_n 0, 1) := by decide +kernel
theorem dX4_refuseUnless_1 : decode cX4_refuseUnless 1 = .ok (.ifCond .ne 14, 3) := by decide +kernel
theorem dX4_refuseUnless_4 : decode cX4_refuseUnless 4 = .ok (.new 342, 3) := by decide +kernel
theorem dX4_refuseUnless_7 : decode cX4_refuseUnless 7 = .ok (.dup, 1) := by decide +kernel
theorem dX4_refuseUnless_8 : decode cX4_refuseUnless 8 = .ok (.ldc_w 344, 3) := by decide +kernel
theorem dX4_refuseUnless_11 : decode cX4_refuseUnless 11 = .ok (.invokespecial 346, 3) := by decide +kernel
theorem dX4_refuseUnless_14 : decode cX4_refuseUnless 14 = .ok (.athrow, 1) := by decide +kernel
theorem dX4_refuseUnless_15 : decode cX4_refuseUnless 15 = .ok (.return_, 1) := by decide +kernel
theorem dX4_isWithin_0 : decode cX4_isWithin 0 = .ok (.iload_n 0, 1) := by decide +kernel
theorem dX4_isWithin_1 : decode cX4_isWithin 1 = .ok (.iload_n 1, 1) := by decide +kernel
theorem dX4_isWithin_2 : decode cX4_isWithin 2 = .ok (.if_icmp .lt 12, 3) := by decide +kernel
theorem dX4_isWithin_5 : decode cX4_isWithin 5 = .ok (.iload_n 0, 1) := by decide +kernel
theorem dX4_isWithin_6 : decode cX4_isWithin 6 = .ok (.iload_n 2, 1) := by decide +kernel
theorem dX4_isWithin_7 : decode cX4_isWithin 7 = .ok (.if_icmp .gt 7, 3) := by decide +kernel
theorem dX4_isWithin_10 : decode cX4_isWithin 10 = .ok (.iconst 1, 1) := by decide +kernel
theorem dX4_isWithin_11 : decode cX4_isWithin 11 = .ok (.goto 4, 3) := by decide +kernel
theorem dX4_isWithin_14 : decode cX4_isWithin 14 = .ok (.iconst 0, 1) := by decide +kernel
theorem dX4_isWithin_15 : decode cX4_isWithin 15 = .ok (.ireturn, 1) := by decide +kernel
theorem dX4_isSensorTime_0 : decode cX4_isSensorTime 0 = .ok (.iload_n 0, 1) := by decide +kernel
theorem dX4_isSensorTime_1 : decode cX4_isSensorTime 1 = .ok (.iconst 0, 1) := by decide +kernel
theorem dX4_isSensorTime_2 : decode cX4_isSensorTime 2 = .ok (.sipush 9999, 3) := by decide +kernel
theorem dX4_isSensorTime_5 : decode cX4_isSensorTime 5 = .ok (.invokestatic 86, 3) := by decide +kernel
theorem dX4_isSensorTime_8 : decode cX4_isSensorTime 8 = .ok (.ireturn, 1) := by decide +kernel
theorem dX4_isAskedTime_0 : decode cX4_isAskedTime 0 = .ok (.iload_n 0, 1) := by decide +kernel
theorem dX4_isAskedTime_1 : decode cX4_isAskedTime 1 = .ok (.sipush (-9999), 3) := by decide +kernel
theorem dX4_isAskedTime_4 : decode cX4_isAskedTime 4 = .ok (.ldc_w 347, 3) := by decide +kernel
theorem dX4_isAskedTime_7 : decode cX4_isAskedTime 7 = .ok (.invokestatic 86, 3) := by decide +kernel
theorem dX4_isAskedTime_10 : decode cX4_isAskedTime 10 = .ok (.ireturn, 1) := by decide +kernel
theorem dX4_isPlace_0 : decode cX4_isPlace 0 = .ok (.iload_n 0, 1) := by decide +kernel
theorem dX4_isPlace_1 : decode cX4_isPlace 1 = .ok (.sipush (-999), 3) := by decide +kernel
theorem dX4_isPlace_4 : decode cX4_isPlace 4 = .ok (.sipush 999, 3) := by decide +kernel
theorem dX4_isPlace_7 : decode cX4_isPlace 7 = .ok (.invokestatic 86, 3) := by decide +kernel
theorem dX4_isPlace_10 : decode cX4_isPlace 10 = .ok (.ireturn, 1) := by decide +kernel
theorem dX4_squareSum_0 : decode cX4_squareSum 0 = .ok (.iload_n 0, 1) := by decide +kernel
theorem dX4_squareSum_1 : decode cX4_squareSum 1 = .ok (.i2l, 1) := by decide +kernel
theorem dX4_squareSum_2 : decode cX4_squareSum 2 = .ok (.iload_n 0, 1) := by decide +kernel
theorem dX4_squareSum_3 : decode cX4_squareSum 3 = .ok (.i2l, 1) := by decide +kernel
theorem dX4_squareSum_4 : decode cX4_squareSum 4 = .ok (.lmul, 1) := by decide +kernel
theorem dX4_squareSum_5 : decode cX4_squareSum 5 = .ok (.iload_n 1, 1) := by decide +kernel
theorem dX4_squareSum_6 : decode cX4_squareSum 6 = .ok (.i2l, 1) := by decide +kernel
theorem dX4_squareSum_7 : decode cX4_squareSum 7 = .ok (.iload_n 1, 1) := by decide +kernel
theorem dX4_squareSum_8 : decode cX4_squareSum 8 = .ok (.i2l, 1) := by decide +kernel
theorem dX4_squareSum_9 : decode cX4_squareSum 9 = .ok (.lmul, 1) := by decide +kernel
theorem dX4_squareSum_10 : decode cX4_squareSum 10 = .ok (.ladd, 1) := by decide +kernel
theorem dX4_squareSum_11 : decode cX4_squareSum 11 = .ok (.lreturn, 1) := by decide +kernel
theorem dX4_squareOfSixteenths_0 : decode cX4_squareOfSixteenths 0 = .ok (.bipush 16, 2) := by decide +kernel
theorem dX4_squareOfSixteenths_2 : decode cX4_squareOfSixteenths 2 = .ok (.iload_n 0, 1) := by decide +kernel
theorem dX4_squareOfSixteenths_3 : decode cX4_squareOfSixteenths 3 = .ok (.imul, 1) := by decide +kernel
theorem dX4_squareOfSixteenths_4 : decode cX4_squareOfSixteenths 4 = .ok (.iconst 0, 1) := by decide +kernel
theorem dX4_squareOfSixteenths_5 : decode cX4_squareOfSixteenths 5 = .ok (.invokestatic 265, 3) := by decide +kernel
theorem dX4_squareOfSixteenths_8 : decode cX4_squareOfSixteenths 8 = .ok (.lreturn, 1) := by decide +kernel
end
section
theorem dX5_init_0 : decode cX5_init 0 = .ok (.aload_n 0, 1) := by decide +kernel
theorem dX5_init_1 : decode cX5_init 1 = .ok (.invokespecial 1, 3) := by decide +kernel
theorem dX5_init_4 : decode cX5_init 4 = .ok (.aload_n 0, 1) := by decide +kernel
theorem dX5_init_5 : decode cX5_init 5 = .ok (.bipush 16, 2) := by decide +kernel
theorem dX5_init_7 : decode cX5_init 7 = .ok (.newarray .int, 2) := by decide +kernel
theorem dX5_init_9 : decode cX5_init 9 = .ok (.putfield 9, 3) := by decide +kernel
theorem dX5_init_12 : decode cX5_init 12 = .ok (.aload_n 0, 1) := by decide +kernel
theorem dX5_init_13 : decode cX5_init 13 = .ok (.iconst 4, 1) := by decide +kernel
theorem dX5_init_14 : decode cX5_init 14 = .ok (.newarray .int, 2) := by decide +kernel
theorem dX5_init_16 : decode cX5_init 16 = .ok (.putfield 13, 3) := by decide +kernel
theorem dX5_init_19 : decode cX5_init 19 = .ok (.aload_n 0, 1) := by decide +kernel
theorem dX5_init_20 : decode cX5_init 20 = .ok (.sipush 540, 3) := by decide +kernel
theorem dX5_init_23 : decode cX5_init 23 = .ok (.newarray .int, 2) := by decide +kernel
theorem dX5_init_25 : decode cX5_init 25 = .ok (.putfield 16, 3) := by decide +kernel
theorem dX5_init_28 : decode cX5_init 28 = .ok (.aload_n 0, 1) := by decide +kernel
theorem dX5_init_29 : decode cX5_init 29 = .ok (.bipush 60, 2) := by decide +kernel
theorem dX5_init_31 : decode cX5_init 31 = .ok (.anewarray 19, 3) := by decide +kernel
theorem dX5_init_34 : decode cX5_init 34 = .ok (.putfield 21, 3) := by decide +kernel
theorem dX5_init_37 : decode cX5_init 37 = .ok (.aload_n 0, 1) := by decide +kernel
theorem dX5_init_38 : decode cX5_init 38 = .ok (.bipush 60, 2) := by decide +kernel
theorem dX5_init_40 : decode cX5_init 40 = .ok (.newarray .int, 2) := by decide +kernel
theorem dX5_init_42 : decode cX5_init 42 = .ok (.putfield 25, 3) := by decide +kernel
theorem dX5_init_45 : decode cX5_init 45 = .ok (.aload_n 0, 1) := by decide +kernel
theorem dX5_init_46 : decode cX5_init 46 = .ok (.iconst 4, 1) := by decide +kernel
theorem dX5_init_47 : decode cX5_init 47 = .ok (.newarray .int, 2) := by decide +kernel
theorem dX5_init_49 : decode cX5_init 49 = .ok (.putfield 28, 3) := by decide +kernel
theorem dX5_init_52 : decode cX5_init 52 = .ok (.aload_n 0, 1) := by decide +kernel
theorem dX5_init_53 : decode cX5_init 53 = .ok (.iconst 4, 1) := by decide +kernel
theorem dX5_init_54 : decode cX5_init 54 = .ok (.newarray .int, 2) := by decide +kernel
theorem dX5_init_56 : decode cX5_init 56 = .ok (.putfield 31, 3) := by decide +kernel
theorem dX5_init_59 : decode cX5_init 59 = .ok (.aload_n 0, 1) := by decide +kernel
theorem dX5_init_60 : decode cX5_init 60 = .ok (.iconst 4, 1) := by decide +kernel
theorem dX5_init_61 : decode cX5_init 61 = .ok (.newarray .int, 2) := by decide +kernel
theorem dX5_init_63 : decode cX5_init 63 = .ok (.putfield 34, 3) := by decide +kernel
theorem dX5_init_66 : decode cX5_init 66 = .ok (.aload_n 0, 1) := by decide +kernel
theorem dX5_init_67 : decode cX5_init 67 = .ok (.bipush 20, 2) := by decide +kernel
theorem dX5_init_69 : decode cX5_init 69 = .ok (.putfield 37, 3) := by decide +kernel
theorem dX5_init_72 : decode cX5_init 72 = .ok (.aload_n 0, 1) := by decide +kernel
theorem dX5_init_73 : decode cX5_init 73 = .ok (.bipush 8, 2) := by decide +kernel
theorem dX5_init_75 : decode cX5_init 75 = .ok (.putfield 41, 3) := by decide +kernel
theorem dX5_init_78 : decode cX5_init 78 = .ok (.aload_n 0, 1) := by decide +kernel
theorem dX5_init_79 : decode cX5_init 79 = .ok (.iconst 4, 1) := by decide +kernel
theorem dX5_init_80 : decode cX5_init 80 = .ok (.putfield 44, 3) := by decide +kernel
theorem dX5_init_83 : decode cX5_init 83 = .ok (.aload_n 0, 1) := by decide +kernel
theorem dX5_init_84 : decode cX5_init 84 = .ok (.iconst 3, 1) := by decide +kernel
theorem dX5_init_85 : decode cX5_init 85 = .ok (.putfield 47, 3) := by decide +kernel
theorem dX5_init_88 : decode cX5_init 88 = .ok (.aload_n 0, 1) := by decide +kernel
theorem dX5_init_89 : decode cX5_init 89 = .ok (.iconst 2, 1) := by decide +kernel
theorem dX5_init_90 : decode cX5_init 90 = .ok (.putfield 50, 3) := by decide +kernel
theorem dX5_init_93 : decode cX5_init 93 = .ok (.aload_n 0, 1) := by decide +kernel
theorem dX5_init_94 : decode cX5_init 94 = .ok (.iconst 4, 1) := by decide +kernel
theorem dX5_init_95 : decode cX5_init 95 = .ok (.newarray .int, 2) := by decide +kernel
theorem dX5_init_97 : decode cX5_init 97 = .ok (.putfield 53, 3) := by decide +kernel
theorem dX5_init_100 : decode cX5_init 100 = .ok (.aload_n 0, 1) := by decide +kernel
theorem dX5_init_101 : decode cX5_init 101 = .ok (.iconst 4, 1) := by decide +kernel
theorem dX5_init_102 : decode cX5_init 102 = .ok (.newarray .int, 2) := by decide +kernel
theorem dX5_init_104 : decode cX5_init 104 = .ok (.putfield 56, 3) := by decide +kernel
theorem dX5_init_107 : decode cX5_init 107 = .ok (.aload_n 0, 1) := by decide +kernel
theorem dX5_init_108 : decode cX5_init 108 = .ok (.iconst 2, 1) := by decide +kernel
theorem dX5_init_109 : decode cX5_init 109 = .ok (.newarray .int, 2) := by decide +kernel
theorem dX5_init_111 : decode cX5_init 111 = .ok (.putfield 59, 3) := by decide +kernel
theorem dX5_init_114 : decode cX5_init 114 = .ok (.return_, 1) := by decide +kernel
theorem dX5_thrown_0 : decode cX5_thrown 0 = .ok (.aload_n 0, 1) := by decide +kernel
theorem dX5_thrown_1 : decode cX5_thrown 1 = .ok (.getfield 62, 3) := by decide +kernel
theorem dX5_thrown_4 : decode cX5_thrown 4 = .ok (.ireturn, 1) := by decide +kernel
theorem dX5_in_0 : decode cX5_in 0 = .ok (.lload_n 0, 1) := by decide +kernel
theorem dX5_in_1 : decode cX5_in 1 = .ok (.lload_n 2, 1) := by decide +kernel
theorem dX5_in_2 : decode cX5_in 2 = .ok (.lcmp, 1) := by decide +kernel
theorem dX5_in_3 : decode cX5_in 3 = .ok (.ifCond .lt 14, 3) := by decide +kernel
theorem dX5_in_6 : decode cX5_in 6 = .ok (.lload_n 0, 1) := by decide +kernel
theorem dX5_in_7 : decode cX5_in 7 = .ok (.lload 4, 2) := by decide +kernel
theorem dX5_in_9 : decode cX5_in 9 = .ok (.lcmp, 1) := by decide +kernel
theorem dX5_in_10 : decode cX5_in 10 = .ok (.ifCond .gt 7, 3) := by decide +kernel
theorem dX5_in_13 : decode cX5_in 13 = .ok (.iconst 1, 1) := by decide +kernel
theorem dX5_in_14 : decode cX5_in 14 = .ok (.goto 4, 3) := by decide +kernel
theorem dX5_in_17 : decode cX5_in 17 = .ok (.iconst 0, 1) := by decide +kernel
theorem dX5_in_18 : decode cX5_in 18 = .ok (.ireturn, 1) := by decide +kernel
theorem dX5_isSensor_0 : decode cX5_isSensor 0 = .ok (.iload_n 0, 1) := by decide +kernel
theorem dX5_isSensor_1 : decode cX5_isSensor 1 = .ok (.i2l, 1) := by decide +kernel
theorem dX5_isSensor_2 : decode cX5_isSensor 2 = .ok (.lconst 0, 1) := by decide +kernel
theorem dX5_isSensor_3 : decode cX5_isSensor 3 = .ok (.ldc2_w 65, 3) := by decide +kernel
theorem dX5_isSensor_6 : decode cX5_isSensor 6 = .ok (.invokestatic 67, 3) := by decide +kernel
theorem dX5_isSensor_9 : decode cX5_isSensor 9 = .ok (.ireturn, 1) := by decide +kernel
theorem dX5_isTrack_0 : decode cX5_isTrack 0 = .ok (.iload_n 1, 1) := by decide +kernel
theorem dX5_isTrack_1 : decode cX5_isTrack 1 = .ok (.i2l, 1) := by decide +kernel
theorem dX5_isTrack_2 : decode cX5_isTrack 2 = .ok (.lconst 0, 1) := by decide +kernel
theorem dX5_isTrack_3 : decode cX5_isTrack 3 = .ok (.aload_n 0, 1) := by decide +kernel
theorem dX5_isTrack_4 : decode cX5_isTrack 4 = .ok (.getfield 71, 3) := by decide +kernel
theorem dX5_isTrack_7 : decode cX5_isTrack 7 = .ok (.iconst 1, 1) := by decide +kernel
theorem dX5_isTrack_8 : decode cX5_isTrack 8 = .ok (.isub, 1) := by decide +kernel
theorem dX5_isTrack_9 : decode cX5_isTrack 9 = .ok (.i2l, 1) := by decide +kernel
theorem dX5_isTrack_10 : decode cX5_isTrack 10 = .ok (.invokestatic 67, 3) := by decide +kernel
theorem dX5_isTrack_13 : decode cX5_isTrack 13 = .ok (.ireturn, 1) := by decide +kernel
theorem dX5_of_0 : decode cX5_of 0 = .ok (.aload_n 0, 1) := by decide +kernel
theorem dX5_of_1 : decode cX5_of 1 = .ok (.getfield 16, 3) := by decide +kernel
theorem dX5_of_4 : decode cX5_of 4 = .ok (.bipush 9, 2) := by decide +kernel
theorem dX5_of_6 : decode cX5_of 6 = .ok (.iload_n 1, 1) := by decide +kernel
theorem dX5_of_7 : decode cX5_of 7 = .ok (.imul, 1) := by decide +kernel
theorem dX5_of_8 : decode cX5_of 8 = .ok (.iload_n 2, 1) := by decide +kernel
theorem dX5_of_9 : decode cX5_of 9 = .ok (.iadd, 1) := by decide +kernel
theorem dX5_of_10 : decode cX5_of 10 = .ok (.iaload, 1) := by decide +kernel
theorem dX5_of_11 : decode cX5_of 11 = .ok (.ireturn, 1) := by decide +kernel
theorem dX5_lays_0 : decode cX5_lays 0 = .ok (.aload_n 0, 1) := by decide +kernel
theorem dX5_lays_1 : decode cX5_lays 1 = .ok (.getfield 16, 3) := by decide +kernel
theorem dX5_lays_4 : decode cX5_lays 4 = .ok (.bipush 9, 2) := by decide +kernel
theorem dX5_lays_6 : decode cX5_lays 6 = .ok (.iload_n 1, 1) := by decide +kernel
theorem dX5_lays_7 : decode cX5_lays 7 = .ok (.imul, 1) := by decide +kernel
theorem dX5_lays_8 : decode cX5_lays 8 = .ok (.iload_n 2, 1) := by decide +kernel
theorem dX5_lays_9 : decode cX5_lays 9 = .ok (.iadd, 1) := by decide +kernel
theorem dX5_lays_10 : decode cX5_lays 10 = .ok (.iload_n 3, 1) := by decide +kernel
theorem dX5_lays_11 : decode cX5_lays 11 = .ok (.iastore, 1) := by decide +kernel
theorem dX5_lays_12 : decode cX5_lays 12 = .ok (.return_, 1) := by decide +kernel
theorem dX5_isLive_0 : decode cX5_isLive 0 = .ok (.aload_n 0, 1) := by decide +kernel
theorem dX5_isLive_1 : decode cX5_isLive 1 = .ok (.iload_n 1, 1) := by decide +kernel
theorem dX5_isLive_2 : decode cX5_isLive 2 = .ok (.bipush 7, 2) := by decide +kernel
theorem dX5_isLive_4 : decode cX5_isLive 4 = .ok (.invokevirtual 74, 3) := by decide +kernel
theorem dX5_isLive_7 : decode cX5_isLive 7 = .ok (.ifCond .ne 7, 3) := by decide +kernel
theorem dX5_isLive_10 : decode cX5_isLive 10 = .ok (.iconst 1, 1) := by decide +kernel
theorem dX5_isLive_11 : decode cX5_isLive 11 = .ok (.goto 4, 3) := by decide +kernel
theorem dX5_isLive_14 : decode cX5_isLive 14 = .ok (.iconst 0, 1) := by decide +kernel
theorem dX5_isLive_15 : decode cX5_isLive 15 = .ok (.ireturn, 1) := by decide +kernel
theorem dX5_isTime_0 : decode cX5_isTime 0 = .ok (.iload_n 0, 1) := by decide +kernel
theorem dX5_isTime_1 : decode cX5_isTime 1 = .ok (.i2l, 1) := by decide +kernel
theorem dX5_isTime_2 : decode cX5_isTime 2 = .ok (.lconst 0, 1) := by decide +kernel
theorem dX5_isTime_3 : decode cX5_isTime 3 = .ok (.ldc2_w 78, 3) := by decide +kernel
theorem dX5_isTime_6 : decode cX5_isTime 6 = .ok (.invokestatic 67, 3) := by decide +kernel
theorem dX5_isTime_9 : decode cX5_isTime 9 = .ok (.ireturn, 1) := by decide +kernel
theorem dX5_addPair_0 : decode cX5_addPair 0 = .ok (.iload_n 2, 1) := by decide +kernel
theorem dX5_addPair_1 : decode cX5_addPair 1 = .ok (.invokestatic 80, 3) := by decide +kernel
theorem dX5_addPair_4 : decode cX5_addPair 4 = .ok (.ifCond .eq 14, 3) := by decide +kernel
theorem dX5_addPair_7 : decode cX5_addPair 7 = .ok (.iload_n 3, 1) := by decide +kernel
theorem dX5_addPair_8 : decode cX5_addPair 8 = .ok (.invokestatic 80, 3) := by decide +kernel
theorem dX5_addPair_11 : decode cX5_addPair 11 = .ok (.ifCond .eq 7, 3) := by decide +kernel
theorem dX5_addPair_14 : decode cX5_addPair 14 = .ok (.iconst 1, 1) := by decide +kernel
theorem dX5_addPair_15 : decode cX5_addPair 15 = .ok (.goto 4, 3) := by decide +kernel
theorem dX5_addPair_18 : decode cX5_addPair 18 = .ok (.iconst 0, 1) := by decide +kernel
theorem dX5_addPair_19 : decode cX5_addPair 19 = .ok (.istore 4, 2) := by decide +kernel
theorem dX5_addPair_21 : decode cX5_addPair 21 = .ok (.iload_n 1, 1) := by decide +kernel
theorem dX5_addPair_22 : decode cX5_addPair 22 = .ok (.invokestatic 84, 3) := by decide +kernel
theorem dX5_addPair_25 : decode cX5_addPair 25 = .ok (.ifCond .eq 87, 3) := by decide +kernel
theorem dX5_addPair_28 : decode cX5_addPair 28 = .ok (.aload_n 0, 1) := by decide +kernel
theorem dX5_addPair_29 : decode cX5_addPair 29 = .ok (.getfield 13, 3) := by decide +kernel
theorem dX5_addPair_32 : decode cX5_addPair 32 = .ok (.iload_n 1, 1) := by decide +kernel
theorem dX5_addPair_33 : decode cX5_addPair 33 = .ok (.iaload, 1) := by decide +kernel
theorem dX5_addPair_34 : decode cX5_addPair 34 = .ok (.ifCond .le 78, 3) := by decide +kernel
theorem dX5_addPair_37 : decode cX5_addPair 37 = .ok (.iconst 4, 1) := by decide +kernel
theorem dX5_addPair_38 : decode cX5_addPair 38 = .ok (.iload_n 1, 1) := by decide +kernel
theorem dX5_addPair_39 : decode cX5_addPair 39 = .ok (.imul, 1) := by decide +kernel
theorem dX5_addPair_40 : decode cX5_addPair 40 = .ok (.iconst 2, 1) := by decide +kernel
theorem dX5_addPair_41 : decode cX5_addPair 41 = .ok (.aload_n 0, 1) := by decide +kernel
theorem dX5_addPair_42 : decode cX5_addPair 42 = .ok (.getfield 13, 3) := by decide +kernel
theorem dX5_addPair_45 : decode cX5_addPair 45 = .ok (.iload_n 1, 1) := by decide +kernel
theorem dX5_addPair_46 : decode cX5_addPair 46 = .ok (.iaload, 1) := by decide +kernel
theorem dX5_addPair_47 : decode cX5_addPair 47 = .ok (.iconst 1, 1) := by decide +kernel
theorem dX5_addPair_48 : decode cX5_addPair 48 = .ok (.isub, 1) := by decide +kernel
theorem dX5_addPair_49 : decode cX5_addPair 49 = .ok (.imul, 1) := by decide +kernel
theorem dX5_addPair_50 : decode cX5_addPair 50 = .ok (.iadd, 1) := by decide +kernel
theorem dX5_addPair_51 : decode cX5_addPair 51 = .ok (.istore 5, 2) := by decide +kernel
theorem dX5_addPair_53 : decode cX5_addPair 53 = .ok (.iload_n 2, 1) := by decide +kernel
theorem dX5_addPair_54 : decode cX5_addPair 54 = .ok (.aload_n 0, 1) := by decide +kernel
theorem dX5_addPair_55 : decode cX5_addPair 55 = .ok (.getfield 9, 3) := by decide +kernel
theorem dX5_addPair_58 : decode cX5_addPair 58 = .ok (.iload 5, 2) := by decide +kernel
theorem dX5_addPair_60 : decode cX5_addPair 60 = .ok (.iaload, 1) := by decide +kernel
theorem dX5_addPair_61 : decode cX5_addPair 61 = .ok (.isub, 1) := by decide +kernel
theorem dX5_addPair_62 : decode cX5_addPair 62 = .ok (.istore 6, 2) := by decide +kernel
theorem dX5_addPair_64 : decode cX5_addPair 64 = .ok (.iload_n 3, 1) := by decide +kernel
theorem dX5_addPair_65 : decode cX5_addPair 65 = .ok (.aload_n 0, 1) := by decide +kernel
theorem dX5_addPair_66 : decode cX5_addPair 66 = .ok (.getfield 9, 3) := by decide +kernel
theorem dX5_addPair_69 : decode cX5_addPair 69 = .ok (.iload 5, 2) := by decide +kernel
theorem dX5_addPair_71 : decode cX5_addPair 71 = .ok (.iconst 1, 1) := by decide +kernel
theorem dX5_addPair_72 : decode cX5_addPair 72 = .ok (.iadd, 1) := by decide +kernel
theorem dX5_addPair_73 : decode cX5_addPair 73 = .ok (.iaload, 1) := by decide +kernel
theorem dX5_addPair_74 : decode cX5_addPair 74 = .ok (.isub, 1) := by decide +kernel
theorem dX5_addPair_75 : decode cX5_addPair 75 = .ok (.istore 7, 2) := by decide +kernel
theorem dX5_addPair_77 : decode cX5_addPair 77 = .ok (.iload 4, 2) := by decide +kernel
theorem dX5_addPair_79 : decode cX5_addPair 79 = .ok (.ifCond .eq 30, 3) := by decide +kernel
theorem dX5_addPair_82 : decode cX5_addPair 82 = .ok (.iload 6, 2) := by decide +kernel
theorem dX5_addPair_84 : decode cX5_addPair 84 = .ok (.ifCond .le 25, 3) := by decide +kernel
theorem dX5_addPair_87 : decode cX5_addPair 87 = .ok (.iconst 2, 1) := by decide +kernel
theorem dX5_addPair_88 : decode cX5_addPair 88 = .ok (.iload 7, 2) := by decide +kernel
theorem dX5_addPair_90 : decode cX5_addPair 90 = .ok (.imul, 1) := by decide +kernel
theorem dX5_addPair_91 : decode cX5_addPair 91 = .ok (.iload 6, 2) := by decide +kernel
theorem dX5_addPair_93 : decode cX5_addPair 93 = .ok (.if_icmp .lt 16, 3) := by decide +kernel
theorem dX5_addPair_96 : decode cX5_addPair 96 = .ok (.iload 7, 2) := by decide +kernel
theorem dX5_addPair_98 : decode cX5_addPair 98 = .ok (.iconst 2, 1) := by decide +kernel
theorem dX5_addPair_99 : decode cX5_addPair 99 = .ok (.iload 6, 2) := by decide +kernel
theorem dX5_addPair_101 : decode cX5_addPair 101 = .ok (.imul, 1) := by decide +kernel
theorem dX5_addPair_102 : decode cX5_addPair 102 = .ok (.if_icmp .gt 7, 3) := by decide +kernel
theorem dX5_addPair_105 : decode cX5_addPair 105 = .ok (.iconst 1, 1) := by decide +kernel
theorem dX5_addPair_106 : decode cX5_addPair 106 = .ok (.goto 4, 3) := by decide +kernel
theorem dX5_addPair_109 : decode cX5_addPair 109 = .ok (.iconst 0, 1) := by decide +kernel
theorem dX5_addPair_110 : decode cX5_addPair 110 = .ok (.istore 4, 2) := by decide +kernel
theorem dX5_addPair_112 : decode cX5_addPair 112 = .ok (.aload_n 0, 1) := by decide +kernel
theorem dX5_addPair_113 : decode cX5_addPair 113 = .ok (.iload_n 1, 1) := by decide +kernel
theorem dX5_addPair_114 : decode cX5_addPair 114 = .ok (.invokestatic 84, 3) := by decide +kernel
theorem dX5_addPair_117 : decode cX5_addPair 117 = .ok (.ifCond .ne 7, 3) := by decide +kernel
theorem dX5_addPair_120 : decode cX5_addPair 120 = .ok (.iconst 1, 1) := by decide +kernel
theorem dX5_addPair_121 : decode cX5_addPair 121 = .ok (.goto 13, 3) := by decide +kernel
theorem dX5_addPair_124 : decode cX5_addPair 124 = .ok (.iload 4, 2) := by decide +kernel
theorem dX5_addPair_126 : decode cX5_addPair 126 = .ok (.ifCond .ne 7, 3) := by decide +kernel
theorem dX5_addPair_129 : decode cX5_addPair 129 = .ok (.iconst 2, 1) := by decide +kernel
theorem dX5_addPair_130 : decode cX5_addPair 130 = .ok (.goto 4, 3) := by decide +kernel
theorem dX5_addPair_133 : decode cX5_addPair 133 = .ok (.iconst 0, 1) := by decide +kernel
theorem dX5_addPair_134 : decode cX5_addPair 134 = .ok (.putfield 62, 3) := by decide +kernel
theorem dX5_addPair_137 : decode cX5_addPair 137 = .ok (.aload_n 0, 1) := by decide +kernel
theorem dX5_addPair_138 : decode cX5_addPair 138 = .ok (.getfield 62, 3) := by decide +kernel
theorem dX5_addPair_141 : decode cX5_addPair 141 = .ok (.ifCond .le 5, 3) := by decide +kernel
theorem dX5_addPair_144 : decode cX5_addPair 144 = .ok (.iconst (-1), 1) := by decide +kernel
theorem dX5_addPair_145 : decode cX5_addPair 145 = .ok (.ireturn, 1) := by decide +kernel
theorem dX5_addPair_146 : decode cX5_addPair 146 = .ok (.iconst 4, 1) := by decide +kernel
theorem dX5_addPair_147 : decode cX5_addPair 147 = .ok (.iload_n 1, 1) := by decide +kernel
theorem dX5_addPair_148 : decode cX5_addPair 148 = .ok (.imul, 1) := by decide +kernel
theorem dX5_addPair_149 : decode cX5_addPair 149 = .ok (.istore 5, 2) := by decide +kernel
theorem dX5_addPair_151 : decode cX5_addPair 151 = .ok (.aload_n 0, 1) := by decide +kernel
theorem dX5_addPair_152 : decode cX5_addPair 152 = .ok (.getfield 13, 3) := by decide +kernel
theorem dX5_addPair_155 : decode cX5_addPair 155 = .ok (.iload_n 1, 1) := by decide +kernel
theorem dX5_addPair_156 : decode cX5_addPair 156 = .ok (.iaload, 1) := by decide +kernel
theorem dX5_addPair_157 : decode cX5_addPair 157 = .ok (.iconst 2, 1) := by decide +kernel
theorem dX5_addPair_158 : decode cX5_addPair 158 = .ok (.if_icmp .ne 44, 3) := by decide +kernel
theorem dX5_addPair_161 : decode cX5_addPair 161 = .ok (.aload_n 0, 1) := by decide +kernel
theorem dX5_addPair_162 : decode cX5_addPair 162 = .ok (.getfield 9, 3) := by decide +kernel
theorem dX5_addPair_165 : decode cX5_addPair 165 = .ok (.iload 5, 2) := by decide +kernel
theorem dX5_addPair_167 : decode cX5_addPair 167 = .ok (.aload_n 0, 1) := by decide +kernel
theorem dX5_addPair_168 : decode cX5_addPair 168 = .ok (.getfield 9, 3) := by decide +kernel
theorem dX5_addPair_171 : decode cX5_addPair 171 = .ok (.iload 5, 2) := by decide +kernel
theorem dX5_addPair_173 : decode cX5_addPair 173 = .ok (.iconst 2, 1) := by decide +kernel
theorem dX5_addPair_174 : decode cX5_addPair 174 = .ok (.iadd, 1) := by decide +kernel
theorem dX5_addPair_175 : decode cX5_addPair 175 = .ok (.iaload, 1) := by decide +kernel
theorem dX5_addPair_176 : decode cX5_addPair 176 = .ok (.iastore, 1) := by decide +kernel
theorem dX5_addPair_177 : decode cX5_addPair 177 = .ok (.aload_n 0, 1) := by decide +kernel
theorem dX5_addPair_178 : decode cX5_addPair 178 = .ok (.getfield 9, 3) := by decide +kernel
theorem dX5_addPair_181 : decode cX5_addPair 181 = .ok (.iload 5, 2) := by decide +kernel
theorem dX5_addPair_183 : decode cX5_addPair 183 = .ok (.iconst 1, 1) := by decide +kernel
theorem dX5_addPair_184 : decode cX5_addPair 184 = .ok (.iadd, 1) := by decide +kernel
theorem dX5_addPair_185 : decode cX5_addPair 185 = .ok (.aload_n 0, 1) := by decide +kernel
theorem dX5_addPair_186 : decode cX5_addPair 186 = .ok (.getfield 9, 3) := by decide +kernel
theorem dX5_addPair_189 : decode cX5_addPair 189 = .ok (.iload 5, 2) := by decide +kernel
theorem dX5_addPair_191 : decode cX5_addPair 191 = .ok (.iconst 3, 1) := by decide +kernel
theorem dX5_addPair_192 : decode cX5_addPair 192 = .ok (.iadd, 1) := by decide +kernel
theorem dX5_addPair_193 : decode cX5_addPair 193 = .ok (.iaload, 1) := by decide +kernel
theorem dX5_addPair_194 : decode cX5_addPair 194 = .ok (.iastore, 1) := by decide +kernel
theorem dX5_addPair_195 : decode cX5_addPair 195 = .ok (.aload_n 0, 1) := by decide +kernel
theorem dX5_addPair_196 : decode cX5_addPair 196 = .ok (.getfield 13, 3) := by decide +kernel
theorem dX5_addPair_199 : decode cX5_addPair 199 = .ok (.iload_n 1, 1) := by decide +kernel
theorem dX5_addPair_200 : decode cX5_addPair 200 = .ok (.iconst 1, 1) := by decide +kernel
theorem dX5_addPair_201 : decode cX5_addPair 201 = .ok (.iastore, 1) := by decide +kernel
theorem dX5_addPair_202 : decode cX5_addPair 202 = .ok (.aload_n 0, 1) := by decide +kernel
theorem dX5_addPair_203 : decode cX5_addPair 203 = .ok (.getfield 9, 3) := by decide +kernel
theorem dX5_addPair_206 : decode cX5_addPair 206 = .ok (.iload 5, 2) := by decide +kernel
theorem dX5_addPair_208 : decode cX5_addPair 208 = .ok (.iconst 2, 1) := by decide +kernel
theorem dX5_addPair_209 : decode cX5_addPair 209 = .ok (.aload_n 0, 1) := by decide +kernel
theorem dX5_addPair_210 : decode cX5_addPair 210 = .ok (.getfield 13, 3) := by decide +kernel
theorem dX5_addPair_213 : decode cX5_addPair 213 = .ok (.iload_n 1, 1) := by decide +kernel
theorem dX5_addPair_214 : decode cX5_addPair 214 = .ok (.iaload, 1) := by decide +kernel
theorem dX5_addPair_215 : decode cX5_addPair 215 = .ok (.imul, 1) := by decide +kernel
theorem dX5_addPair_216 : decode cX5_addPair 216 = .ok (.iadd, 1) := by decide +kernel
theorem dX5_addPair_217 : decode cX5_addPair 217 = .ok (.iload_n 2, 1) := by decide +kernel
theorem dX5_addPair_218 : decode cX5_addPair 218 = .ok (.iastore, 1) := by decide +kernel
theorem dX5_addPair_219 : decode cX5_addPair 219 = .ok (.aload_n 0, 1) := by decide +kernel
theorem dX5_addPair_220 : decode cX5_addPair 220 = .ok (.getfield 9, 3) := by decide +kernel
theorem dX5_addPair_223 : decode cX5_addPair 223 = .ok (.iload 5, 2) := by decide +kernel
theorem dX5_addPair_225 : decode cX5_addPair 225 = .ok (.iconst 2, 1) := by decide +kernel
theorem dX5_addPair_226 : decode cX5_addPair 226 = .ok (.aload_n 0, 1) := by decide +kernel
theorem dX5_addPair_227 : decode cX5_addPair 227 = .ok (.getfield 13, 3) := by decide +kernel
theorem dX5_addPair_230 : decode cX5_addPair 230 = .ok (.iload_n 1, 1) := by decide +kernel
theorem dX5_addPair_231 : decode cX5_addPair 231 = .ok (.iaload, 1) := by decide +kernel
theorem dX5_addPair_232 : decode cX5_addPair 232 = .ok (.imul, 1) := by decide +kernel
theorem dX5_addPair_233 : decode cX5_addPair 233 = .ok (.iadd, 1) := by decide +kernel
theorem dX5_addPair_234 : decode cX5_addPair 234 = .ok (.iconst 1, 1) := by decide +kernel
theorem dX5_addPair_235 : decode cX5_addPair 235 = .ok (.iadd, 1) := by decide +kernel
theorem dX5_addPair_236 : decode cX5_addPair 236 = .ok (.iload_n 3, 1) := by decide +kernel
theorem dX5_addPair_237 : decode cX5_addPair 237 = .ok (.iastore, 1) := by decide +kernel
theorem dX5_addPair_238 : decode cX5_addPair 238 = .ok (.aload_n 0, 1) := by decide +kernel
theorem dX5_addPair_239 : decode cX5_addPair 239 = .ok (.getfield 13, 3) := by decide +kernel
theorem dX5_addPair_242 : decode cX5_addPair 242 = .ok (.iload_n 1, 1) := by decide +kernel
theorem dX5_addPair_243 : decode cX5_addPair 243 = .ok (.dup2, 1) := by decide +kernel
theorem dX5_addPair_244 : decode cX5_addPair 244 = .ok (.iaload, 1) := by decide +kernel
theorem dX5_addPair_245 : decode cX5_addPair 245 = .ok (.iconst 1, 1) := by decide +kernel
theorem dX5_addPair_246 : decode cX5_addPair 246 = .ok (.iadd, 1) := by decide +kernel
theorem dX5_addPair_247 : decode cX5_addPair 247 = .ok (.iastore, 1) := by decide +kernel
theorem dX5_addPair_248 : decode cX5_addPair 248 = .ok (.aload_n 0, 1) := by decide +kernel
theorem dX5_addPair_249 : decode cX5_addPair 249 = .ok (.getfield 13, 3) := by decide +kernel
theorem dX5_addPair_252 : decode cX5_addPair 252 = .ok (.iload_n 1, 1) := by decide +kernel
theorem dX5_addPair_253 : decode cX5_addPair 253 = .ok (.iaload, 1) := by decide +kernel
theorem dX5_addPair_254 : decode cX5_addPair 254 = .ok (.ireturn, 1) := by decide +kernel
theorem dX5_forgetPairs_0 : decode cX5_forgetPairs 0 = .ok (.aload_n 0, 1) := by decide +kernel
theorem dX5_forgetPairs_1 : decode cX5_forgetPairs 1 = .ok (.iload_n 1, 1) := by decide +kernel
theorem dX5_forgetPairs_2 : decode cX5_forgetPairs 2 = .ok (.invokestatic 84, 3) := by decide +kernel
theorem dX5_forgetPairs_5 : decode cX5_forgetPairs 5 = .ok (.ifCond .eq 7, 3) := by decide +kernel
theorem dX5_forgetPairs_8 : decode cX5_forgetPairs 8 = .ok (.iconst 0, 1) := by decide +kernel
theorem dX5_forgetPairs_9 : decode cX5_forgetPairs 9 = .ok (.goto 4, 3) := by decide +kernel
theorem dX5_forgetPairs_12 : decode cX5_forgetPairs 12 = .ok (.iconst 1, 1) := by decide +kernel
theorem dX5_forgetPairs_13 : decode cX5_forgetPairs 13 = .ok (.putfield 62, 3) := by decide +kernel
theorem dX5_forgetPairs_16 : decode cX5_forgetPairs 16 = .ok (.aload_n 0, 1) := by decide +kernel
theorem dX5_forgetPairs_17 : decode cX5_forgetPairs 17 = .ok (.getfield 62, 3) := by decide +kernel
theorem dX5_forgetPairs_20 : decode cX5_forgetPairs 20 = .ok (.ifCond .le 5, 3) := by decide +kernel
theorem dX5_forgetPairs_23 : decode cX5_forgetPairs 23 = .ok (.iconst (-1), 1) := by decide +kernel
theorem dX5_forgetPairs_24 : decode cX5_forgetPairs 24 = .ok (.ireturn, 1) := by decide +kernel
theorem dX5_forgetPairs_25 : decode cX5_forgetPairs 25 = .ok (.aload_n 0, 1) := by decide +kernel
theorem dX5_forgetPairs_26 : decode cX5_forgetPairs 26 = .ok (.getfield 13, 3) := by decide +kernel
theorem dX5_forgetPairs_29 : decode cX5_forgetPairs 29 = .ok (.iload_n 1, 1) := by decide +kernel
theorem dX5_forgetPairs_30 : decode cX5_forgetPairs 30 = .ok (.iaload, 1) := by decide +kernel
theorem dX5_forgetPairs_31 : decode cX5_forgetPairs 31 = .ok (.istore_n 2, 1) := by decide +kernel
theorem dX5_forgetPairs_32 : decode cX5_forgetPairs 32 = .ok (.aload_n 0, 1) := by decide +kernel
theorem dX5_forgetPairs_33 : decode cX5_forgetPairs 33 = .ok (.getfield 13, 3) := by decide +kernel
theorem dX5_forgetPairs_36 : decode cX5_forgetPairs 36 = .ok (.iload_n 1, 1) := by decide +kernel
theorem dX5_forgetPairs_37 : decode cX5_forgetPairs 37 = .ok (.iconst 0, 1) := by decide +kernel
theorem dX5_forgetPairs_38 : decode cX5_forgetPairs 38 = .ok (.iastore, 1) := by decide +kernel
theorem dX5_forgetPairs_39 : decode cX5_forgetPairs 39 = .ok (.iload_n 2, 1) := by decide +kernel
theorem dX5_forgetPairs_40 : decode cX5_forgetPairs 40 = .ok (.ireturn, 1) := by decide +kernel
theorem dX5_corrected_0 : decode cX5_corrected 0 = .ok (.iconst 4, 1) := by decide +kernel
theorem dX5_corrected_1 : decode cX5_corrected 1 = .ok (.iload_n 1, 1) := by decide +kernel
theorem dX5_corrected_2 : decode cX5_corrected 2 = .ok (.imul, 1) := by decide +kernel
theorem dX5_corrected_3 : decode cX5_corrected 3 = .ok (.istore_n 3, 1) := by decide +kernel
theorem dX5_corrected_4 : decode cX5_corrected 4 = .ok (.aload_n 0, 1) := by decide +kernel
theorem dX5_corrected_5 : decode cX5_corrected 5 = .ok (.getfield 13, 3) := by decide +kernel
theorem dX5_corrected_8 : decode cX5_corrected 8 = .ok (.iload_n 1, 1) := by decide +kernel
theorem dX5_corrected_9 : decode cX5_corrected 9 = .ok (.iaload, 1) := by decide +kernel
theorem dX5_corrected_10 : decode cX5_corrected 10 = .ok (.ifCond .ne 5, 3) := by decide +kernel
theorem dX5_corrected_13 : decode cX5_corrected 13 = .ok (.iload_n 2, 1) := by decide +kernel
theorem dX5_corrected_14 : decode cX5_corrected 14 = .ok (.ireturn, 1) := by decide +kernel
theorem dX5_corrected_15 : decode cX5_corrected 15 = .ok (.aload_n 0, 1) := by decide +kernel
theorem dX5_corrected_16 : decode cX5_corrected 16 = .ok (.getfield 13, 3) := by decide +kernel
theorem dX5_corrected_19 : decode cX5_corrected 19 = .ok (.iload_n 1, 1) := by decide +kernel
theorem dX5_corrected_20 : decode cX5_corrected 20 = .ok (.iaload, 1) := by decide +kernel
theorem dX5_corrected_21 : decode cX5_corrected 21 = .ok (.iconst 1, 1) := by decide +kernel
theorem dX5_corrected_22 : decode cX5_corrected 22 = .ok (.if_icmp .ne 21, 3) := by decide +kernel
theorem dX5_corrected_25 : decode cX5_corrected 25 = .ok (.iload_n 2, 1) := by decide +kernel
theorem dX5_corrected_26 : decode cX5_corrected 26 = .ok (.aload_n 0, 1) := by decide +kernel
theorem dX5_corrected_27 : decode cX5_corrected 27 = .ok (.getfield 9, 3) := by decide +kernel
theorem dX5_corrected_30 : decode cX5_corrected 30 = .ok (.iload_n 3, 1) := by decide +kernel
theorem dX5_corrected_31 : decode cX5_corrected 31 = .ok (.iconst 1, 1) := by decide +kernel
theorem dX5_corrected_32 : decode cX5_corrected 32 = .ok (.iadd, 1) := by decide +kernel
theorem dX5_corrected_33 : decode cX5_corrected 33 = .ok (.iaload, 1) := by decide +kernel
theorem dX5_corrected_34 : decode cX5_corrected 34 = .ok (.iadd, 1) := by decide +kernel
theorem dX5_corrected_35 : decode cX5_corrected 35 = .ok (.aload_n 0, 1) := by decide +kernel
theorem dX5_corrected_36 : decode cX5_corrected 36 = .ok (.getfield 9, 3) := by decide +kernel
theorem dX5_corrected_39 : decode cX5_corrected 39 = .ok (.iload_n 3, 1) := by decide +kernel
theorem dX5_corrected_40 : decode cX5_corrected 40 = .ok (.iaload, 1) := by decide +kernel
theorem dX5_corrected_41 : decode cX5_corrected 41 = .ok (.isub, 1) := by decide +kernel
theorem dX5_corrected_42 : decode cX5_corrected 42 = .ok (.ireturn, 1) := by decide +kernel
theorem dX5_corrected_43 : decode cX5_corrected 43 = .ok (.iload_n 2, 1) := by decide +kernel
theorem dX5_corrected_44 : decode cX5_corrected 44 = .ok (.aload_n 0, 1) := by decide +kernel
theorem dX5_corrected_45 : decode cX5_corrected 45 = .ok (.getfield 9, 3) := by decide +kernel
theorem dX5_corrected_48 : decode cX5_corrected 48 = .ok (.iload_n 3, 1) := by decide +kernel
theorem dX5_corrected_49 : decode cX5_corrected 49 = .ok (.iconst 2, 1) := by decide +kernel
theorem dX5_corrected_50 : decode cX5_corrected 50 = .ok (.iadd, 1) := by decide +kernel
theorem dX5_corrected_51 : decode cX5_corrected 51 = .ok (.iaload, 1) := by decide +kernel
theorem dX5_corrected_52 : decode cX5_corrected 52 = .ok (.isub, 1) := by decide +kernel
theorem dX5_corrected_53 : decode cX5_corrected 53 = .ok (.aload_n 0, 1) := by decide +kernel
theorem dX5_corrected_54 : decode cX5_corrected 54 = .ok (.getfield 9, 3) := by decide +kernel
theorem dX5_corrected_57 : decode cX5_corrected 57 = .ok (.iload_n 3, 1) := by decide +kernel
theorem dX5_corrected_58 : decode cX5_corrected 58 = .ok (.iconst 3, 1) := by decide +kernel
theorem dX5_corrected_59 : decode cX5_corrected 59 = .ok (.iadd, 1) := by decide +kernel
theorem dX5_corrected_60 : decode cX5_corrected 60 = .ok (.iaload, 1) := by decide +kernel
theorem dX5_corrected_61 : decode cX5_corrected 61 = .ok (.aload_n 0, 1) := by decide +kernel
theorem dX5_corrected_62 : decode cX5_corrected 62 = .ok (.getfield 9, 3) := by decide +kernel
theorem dX5_corrected_65 : decode cX5_corrected 65 = .ok (.iload_n 3, 1) := by decide +kernel
theorem dX5_corrected_66 : decode cX5_corrected 66 = .ok (.iconst 1, 1) := by decide +kernel
theorem dX5_corrected_67 : decode cX5_corrected 67 = .ok (.iadd, 1) := by decide +kernel
theorem dX5_corrected_68 : decode cX5_corrected 68 = .ok (.iaload, 1) := by decide +kernel
theorem dX5_corrected_69 : decode cX5_corrected 69 = .ok (.isub, 1) := by decide +kernel
theorem dX5_corrected_70 : decode cX5_corrected 70 = .ok (.imul, 1) := by decide +kernel
theorem dX5_corrected_71 : decode cX5_corrected 71 = .ok (.istore 4, 2) := by decide +kernel
theorem dX5_corrected_73 : decode cX5_corrected 73 = .ok (.aload_n 0, 1) := by decide +kernel
theorem dX5_corrected_74 : decode cX5_corrected 74 = .ok (.getfield 9, 3) := by decide +kernel
theorem dX5_corrected_77 : decode cX5_corrected 77 = .ok (.iload_n 3, 1) := by decide +kernel
theorem dX5_corrected_78 : decode cX5_corrected 78 = .ok (.iconst 3, 1) := by decide +kernel
theorem dX5_corrected_79 : decode cX5_corrected 79 = .ok (.iadd, 1) := by decide +kernel
theorem dX5_corrected_80 : decode cX5_corrected 80 = .ok (.iaload, 1) := by decide +kernel
theorem dX5_corrected_81 : decode cX5_corrected 81 = .ok (.iload 4, 2) := by decide +kernel
theorem dX5_corrected_83 : decode cX5_corrected 83 = .ok (.aload_n 0, 1) := by decide +kernel
theorem dX5_corrected_84 : decode cX5_corrected 84 = .ok (.getfield 9, 3) := by decide +kernel
theorem dX5_corrected_87 : decode cX5_corrected 87 = .ok (.iload_n 3, 1) := by decide +kernel
theorem dX5_corrected_88 : decode cX5_corrected 88 = .ok (.iconst 2, 1) := by decide +kernel
theorem dX5_corrected_89 : decode cX5_corrected 89 = .ok (.iadd, 1) := by decide +kernel
theorem dX5_corrected_90 : decode cX5_corrected 90 = .ok (.iaload, 1) := by decide +kernel
theorem dX5_corrected_91 : decode cX5_corrected 91 = .ok (.aload_n 0, 1) := by decide +kernel
theorem dX5_corrected_92 : decode cX5_corrected 92 = .ok (.getfield 9, 3) := by decide +kernel
theorem dX5_corrected_95 : decode cX5_corrected 95 = .ok (.iload_n 3, 1) := by decide +kernel
theorem dX5_corrected_96 : decode cX5_corrected 96 = .ok (.iaload, 1) := by decide +kernel
theorem dX5_corrected_97 : decode cX5_corrected 97 = .ok (.isub, 1) := by decide +kernel
theorem dX5_corrected_98 : decode cX5_corrected 98 = .ok (.invokestatic 87, 3) := by decide +kernel
theorem dX5_corrected_101 : decode cX5_corrected 101 = .ok (.iadd, 1) := by decide +kernel
theorem dX5_corrected_102 : decode cX5_corrected 102 = .ok (.ireturn, 1) := by decide +kernel
theorem dX5_correctedTime_0 : decode cX5_correctedTime 0 = .ok (.aload_n 0, 1) := by decide +kernel
theorem dX5_correctedTime_1 : decode cX5_correctedTime 1 = .ok (.iload_n 1, 1) := by decide +kernel
theorem dX5_correctedTime_2 : decode cX5_correctedTime 2 = .ok (.invokestatic 84, 3) := by decide +kernel
theorem dX5_correctedTime_5 : decode cX5_correctedTime 5 = .ok (.ifCond .ne 7, 3) := by decide +kernel
theorem dX5_correctedTime_8 : decode cX5_correctedTime 8 = .ok (.iconst 1, 1) := by decide +kernel
theorem dX5_correctedTime_9 : decode cX5_correctedTime 9 = .ok (.goto 15, 3) := by decide +kernel
theorem dX5_correctedTime_12 : decode cX5_correctedTime 12 = .ok (.iload_n 2, 1) := by decide +kernel
theorem dX5_correctedTime_13 : decode cX5_correctedTime 13 = .ok (.invokestatic 80, 3) := by decide +kernel
theorem dX5_correctedTime_16 : decode cX5_correctedTime 16 = .ok (.ifCond .ne 7, 3) := by decide +kernel
theorem dX5_correctedTime_19 : decode cX5_correctedTime 19 = .ok (.iconst 2, 1) := by decide +kernel
theorem dX5_correctedTime_20 : decode cX5_correctedTime 20 = .ok (.goto 4, 3) := by decide +kernel
theorem dX5_correctedTime_23 : decode cX5_correctedTime 23 = .ok (.iconst 0, 1) := by decide +kernel
theorem dX5_correctedTime_24 : decode cX5_correctedTime 24 = .ok (.putfield 62, 3) := by decide +kernel
theorem dX5_correctedTime_27 : decode cX5_correctedTime 27 = .ok (.aload_n 0, 1) := by decide +kernel
theorem dX5_correctedTime_28 : decode cX5_correctedTime 28 = .ok (.getfield 62, 3) := by decide +kernel
theorem dX5_correctedTime_31 : decode cX5_correctedTime 31 = .ok (.ifCond .ne 12, 3) := by decide +kernel
theorem dX5_correctedTime_34 : decode cX5_correctedTime 34 = .ok (.aload_n 0, 1) := by decide +kernel
theorem dX5_correctedTime_35 : decode cX5_correctedTime 35 = .ok (.iload_n 1, 1) := by decide +kernel
theorem dX5_correctedTime_36 : decode cX5_correctedTime 36 = .ok (.iload_n 2, 1) := by decide +kernel
theorem dX5_correctedTime_37 : decode cX5_correctedTime 37 = .ok (.invokevirtual 92, 3) := by decide +kernel
theorem dX5_correctedTime_40 : decode cX5_correctedTime 40 = .ok (.goto 4, 3) := by decide +kernel
theorem dX5_correctedTime_43 : decode cX5_correctedTime 43 = .ok (.iconst (-1), 1) := by decide +kernel
theorem dX5_correctedTime_44 : decode cX5_correctedTime 44 = .ok (.ireturn, 1) := by decide +kernel
theorem dX5_setGate_0 : decode cX5_setGate 0 = .ok (.aload_n 0, 1) := by decide +kernel
theorem dX5_setGate_1 : decode cX5_setGate 1 = .ok (.iload_n 1, 1) := by decide +kernel
theorem dX5_setGate_2 : decode cX5_setGate 2 = .ok (.i2l, 1) := by decide +kernel
theorem dX5_setGate_3 : decode cX5_setGate 3 = .ok (.lconst 1, 1) := by decide +kernel
theorem dX5_setGate_4 : decode cX5_setGate 4 = .ok (.ldc2_w 95, 3) := by decide +kernel
theorem dX5_setGate_7 : decode cX5_setGate 7 = .ok (.invokestatic 67, 3) := by decide +kernel
theorem dX5_setGate_10 : decode cX5_setGate 10 = .ok (.ifCond .eq 7, 3) := by decide +kernel
theorem dX5_setGate_13 : decode cX5_setGate 13 = .ok (.iconst 0, 1) := by decide +kernel
theorem dX5_setGate_14 : decode cX5_setGate 14 = .ok (.goto 4, 3) := by decide +kernel
theorem dX5_setGate_17 : decode cX5_setGate 17 = .ok (.iconst 1, 1) := by decide +kernel
theorem dX5_setGate_18 : decode cX5_setGate 18 = .ok (.putfield 62, 3) := by decide +kernel
theorem dX5_setGate_21 : decode cX5_setGate 21 = .ok (.aload_n 0, 1) := by decide +kernel
theorem dX5_setGate_22 : decode cX5_setGate 22 = .ok (.getfield 37, 3) := by decide +kernel
theorem dX5_setGate_25 : decode cX5_setGate 25 = .ok (.istore_n 2, 1) := by decide +kernel
theorem dX5_setGate_26 : decode cX5_setGate 26 = .ok (.aload_n 0, 1) := by decide +kernel
theorem dX5_setGate_27 : decode cX5_setGate 27 = .ok (.aload_n 0, 1) := by decide +kernel
theorem dX5_setGate_28 : decode cX5_setGate 28 = .ok (.getfield 62, 3) := by decide +kernel
theorem dX5_setGate_31 : decode cX5_setGate 31 = .ok (.ifCond .ne 7, 3) := by decide +kernel
theorem dX5_setGate_34 : decode cX5_setGate 34 = .ok (.iload_n 1, 1) := by decide +kernel
theorem dX5_setGate_35 : decode cX5_setGate 35 = .ok (.goto 4, 3) := by decide +kernel
theorem dX5_setGate_38 : decode cX5_setGate 38 = .ok (.iload_n 2, 1) := by decide +kernel
theorem dX5_setGate_39 : decode cX5_setGate 39 = .ok (.putfield 37, 3) := by decide +kernel
theorem dX5_setGate_42 : decode cX5_setGate 42 = .ok (.aload_n 0, 1) := by decide +kernel
theorem dX5_setGate_43 : decode cX5_setGate 43 = .ok (.getfield 62, 3) := by decide +kernel
theorem dX5_setGate_46 : decode cX5_setGate 46 = .ok (.ifCond .ne 7, 3) := by decide +kernel
theorem dX5_setGate_49 : decode cX5_setGate 49 = .ok (.iload_n 2, 1) := by decide +kernel
theorem dX5_setGate_50 : decode cX5_setGate 50 = .ok (.goto 4, 3) := by decide +kernel
theorem dX5_setGate_53 : decode cX5_setGate 53 = .ok (.iconst (-1), 1) := by decide +kernel
theorem dX5_setGate_54 : decode cX5_setGate 54 = .ok (.ireturn, 1) := by decide +kernel
theorem dX5_setFilter_0 : decode cX5_setFilter 0 = .ok (.aload_n 0, 1) := by decide +kernel
theorem dX5_setFilter_1 : decode cX5_setFilter 1 = .ok (.iload_n 1, 1) := by decide +kernel
theorem dX5_setFilter_2 : decode cX5_setFilter 2 = .ok (.i2l, 1) := by decide +kernel
theorem dX5_setFilter_3 : decode cX5_setFilter 3 = .ok (.lconst 1, 1) := by decide +kernel
theorem dX5_setFilter_4 : decode cX5_setFilter 4 = .ok (.ldc2_w 97, 3) := by decide +kernel
theorem dX5_setFilter_7 : decode cX5_setFilter 7 = .ok (.invokestatic 67, 3) := by decide +kernel
theorem dX5_setFilter_10 : decode cX5_setFilter 10 = .ok (.ifCond .eq 19, 3) := by decide +kernel
theorem dX5_setFilter_13 : decode cX5_setFilter 13 = .ok (.iload_n 2, 1) := by decide +kernel
theorem dX5_setFilter_14 : decode cX5_setFilter 14 = .ok (.i2l, 1) := by decide +kernel
theorem dX5_setFilter_15 : decode cX5_setFilter 15 = .ok (.lconst 0, 1) := by decide +kernel
theorem dX5_setFilter_16 : decode cX5_setFilter 16 = .ok (.ldc2_w 97, 3) := by decide +kernel
theorem dX5_setFilter_19 : decode cX5_setFilter 19 = .ok (.invokestatic 67, 3) := by decide +kernel
theorem dX5_setFilter_22 : decode cX5_setFilter 22 = .ok (.ifCond .eq 7, 3) := by decide +kernel
theorem dX5_setFilter_25 : decode cX5_setFilter 25 = .ok (.iconst 0, 1) := by decide +kernel
theorem dX5_setFilter_26 : decode cX5_setFilter 26 = .ok (.goto 4, 3) := by decide +kernel
theorem dX5_setFilter_29 : decode cX5_setFilter 29 = .ok (.iconst 1, 1) := by decide +kernel
theorem dX5_setFilter_30 : decode cX5_setFilter 30 = .ok (.putfield 62, 3) := by decide +kernel
theorem dX5_setFilter_33 : decode cX5_setFilter 33 = .ok (.aload_n 0, 1) := by decide +kernel
theorem dX5_setFilter_34 : decode cX5_setFilter 34 = .ok (.getfield 62, 3) := by decide +kernel
theorem dX5_setFilter_37 : decode cX5_setFilter 37 = .ok (.ifCond .le 5, 3) := by decide +kernel
theorem dX5_setFilter_40 : decode cX5_setFilter 40 = .ok (.iconst (-1), 1) := by decide +kernel
theorem dX5_setFilter_41 : decode cX5_setFilter 41 = .ok (.ireturn, 1) := by decide +kernel
theorem dX5_setFilter_42 : decode cX5_setFilter 42 = .ok (.bipush 100, 2) := by decide +kernel
theorem dX5_setFilter_44 : decode cX5_setFilter 44 = .ok (.aload_n 0, 1) := by decide +kernel
theorem dX5_setFilter_45 : decode cX5_setFilter 45 = .ok (.getfield 41, 3) := by decide +kernel
theorem dX5_setFilter_48 : decode cX5_setFilter 48 = .ok (.imul, 1) := by decide +kernel
theorem dX5_setFilter_49 : decode cX5_setFilter 49 = .ok (.aload_n 0, 1) := by decide +kernel
theorem dX5_setFilter_50 : decode cX5_setFilter 50 = .ok (.getfield 44, 3) := by decide +kernel
theorem dX5_setFilter_53 : decode cX5_setFilter 53 = .ok (.iadd, 1) := by decide +kernel
theorem dX5_setFilter_54 : decode cX5_setFilter 54 = .ok (.istore_n 3, 1) := by decide +kernel
theorem dX5_setFilter_55 : decode cX5_setFilter 55 = .ok (.aload_n 0, 1) := by decide +kernel
theorem dX5_setFilter_56 : decode cX5_setFilter 56 = .ok (.iload_n 1, 1) := by decide +kernel
theorem dX5_setFilter_57 : decode cX5_setFilter 57 = .ok (.putfield 41, 3) := by decide +kernel
theorem dX5_setFilter_60 : decode cX5_setFilter 60 = .ok (.aload_n 0, 1) := by decide +kernel
theorem dX5_setFilter_61 : decode cX5_setFilter 61 = .ok (.iload_n 2, 1) := by decide +kernel
theorem dX5_setFilter_62 : decode cX5_setFilter 62 = .ok (.putfield 44, 3) := by decide +kernel
theorem dX5_setFilter_65 : decode cX5_setFilter 65 = .ok (.iload_n 3, 1) := by decide +kernel
theorem dX5_setFilter_66 : decode cX5_setFilter 66 = .ok (.ireturn, 1) := by decide +kernel
theorem dX5_setLimit_0 : decode cX5_setLimit 0 = .ok (.aload_n 0, 1) := by decide +kernel
theorem dX5_setLimit_1 : decode cX5_setLimit 1 = .ok (.iload_n 1, 1) := by decide +kernel
theorem dX5_setLimit_2 : decode cX5_setLimit 2 = .ok (.i2l, 1) := by decide +kernel
theorem dX5_setLimit_3 : decode cX5_setLimit 3 = .ok (.lconst 1, 1) := by decide +kernel
theorem dX5_setLimit_4 : decode cX5_setLimit 4 = .ok (.ldc2_w 99, 3) := by decide +kernel
theorem dX5_setLimit_7 : decode cX5_setLimit 7 = .ok (.invokestatic 67, 3) := by decide +kernel
theorem dX5_setLimit_10 : decode cX5_setLimit 10 = .ok (.ifCond .eq 7, 3) := by decide +kernel
theorem dX5_setLimit_13 : decode cX5_setLimit 13 = .ok (.iconst 0, 1) := by decide +kernel
theorem dX5_setLimit_14 : decode cX5_setLimit 14 = .ok (.goto 4, 3) := by decide +kernel
theorem dX5_setLimit_17 : decode cX5_setLimit 17 = .ok (.iconst 1, 1) := by decide +kernel
theorem dX5_setLimit_18 : decode cX5_setLimit 18 = .ok (.putfield 62, 3) := by decide +kernel
theorem dX5_setLimit_21 : decode cX5_setLimit 21 = .ok (.aload_n 0, 1) := by decide +kernel
theorem dX5_setLimit_22 : decode cX5_setLimit 22 = .ok (.getfield 47, 3) := by decide +kernel
theorem dX5_setLimit_25 : decode cX5_setLimit 25 = .ok (.istore_n 2, 1) := by decide +kernel
theorem dX5_setLimit_26 : decode cX5_setLimit 26 = .ok (.aload_n 0, 1) := by decide +kernel
theorem dX5_setLimit_27 : decode cX5_setLimit 27 = .ok (.aload_n 0, 1) := by decide +kernel
theorem dX5_setLimit_28 : decode cX5_setLimit 28 = .ok (.getfield 62, 3) := by decide +kernel
theorem dX5_setLimit_31 : decode cX5_setLimit 31 = .ok (.ifCond .ne 7, 3) := by decide +kernel
theorem dX5_setLimit_34 : decode cX5_setLimit 34 = .ok (.iload_n 1, 1) := by decide +kernel
theorem dX5_setLimit_35 : decode cX5_setLimit 35 = .ok (.goto 4, 3) := by decide +kernel
theorem dX5_setLimit_38 : decode cX5_setLimit 38 = .ok (.iload_n 2, 1) := by decide +kernel
theorem dX5_setLimit_39 : decode cX5_setLimit 39 = .ok (.putfield 47, 3) := by decide +kernel
theorem dX5_setLimit_42 : decode cX5_setLimit 42 = .ok (.aload_n 0, 1) := by decide +kernel
theorem dX5_setLimit_43 : decode cX5_setLimit 43 = .ok (.getfield 62, 3) := by decide +kernel
theorem dX5_setLimit_46 : decode cX5_setLimit 46 = .ok (.ifCond .ne 7, 3) := by decide +kernel
theorem dX5_setLimit_49 : decode cX5_setLimit 49 = .ok (.iload_n 2, 1) := by decide +kernel
theorem dX5_setLimit_50 : decode cX5_setLimit 50 = .ok (.goto 4, 3) := by decide +kernel
theorem dX5_setLimit_53 : decode cX5_setLimit 53 = .ok (.iconst (-1), 1) := by decide +kernel
theorem dX5_setLimit_54 : decode cX5_setLimit 54 = .ok (.ireturn, 1) := by decide +kernel
theorem dX5_setNearness_0 : decode cX5_setNearness 0 = .ok (.aload_n 0, 1) := by decide +kernel
theorem dX5_setNearness_1 : decode cX5_setNearness 1 = .ok (.iload_n 1, 1) := by decide +kernel
theorem dX5_setNearness_2 : decode cX5_setNearness 2 = .ok (.i2l, 1) := by decide +kernel
theorem dX5_setNearness_3 : decode cX5_setNearness 3 = .ok (.lconst 0, 1) := by decide +kernel
theorem dX5_setNearness_4 : decode cX5_setNearness 4 = .ok (.ldc2_w 101, 3) := by decide +kernel
theorem dX5_setNearness_7 : decode cX5_setNearness 7 = .ok (.invokestatic 67, 3) := by decide +kernel
theorem dX5_setNearness_10 : decode cX5_setNearness 10 = .ok (.ifCond .eq 7, 3) := by decide +kernel
theorem dX5_setNearness_13 : decode cX5_setNearness 13 = .ok (.iconst 0, 1) := by decide +kernel
theorem dX5_setNearness_14 : decode cX5_setNearness 14 = .ok (.goto 4, 3) := by decide +kernel
theorem dX5_setNearness_17 : decode cX5_setNearness 17 = .ok (.iconst 1, 1) := by decide +kernel
theorem dX5_setNearness_18 : decode cX5_setNearness 18 = .ok (.putfield 62, 3) := by decide +kernel
theorem dX5_setNearness_21 : decode cX5_setNearness 21 = .ok (.aload_n 0, 1) := by decide +kernel
theorem dX5_setNearness_22 : decode cX5_setNearness 22 = .ok (.getfield 50, 3) := by decide +kernel
theorem dX5_setNearness_25 : decode cX5_setNearness 25 = .ok (.istore_n 2, 1) := by decide +kernel
theorem dX5_setNearness_26 : decode cX5_setNearness 26 = .ok (.aload_n 0, 1) := by decide +kernel
theorem dX5_setNearness_27 : decode cX5_setNearness 27 = .ok (.aload_n 0, 1) := by decide +kernel
theorem dX5_setNearness_28 : decode cX5_setNearness 28 = .ok (.getfield 62, 3) := by decide +kernel
theorem dX5_setNearness_31 : decode cX5_setNearness 31 = .ok (.ifCond .ne 7, 3) := by decide +kernel
theorem dX5_setNearness_34 : decode cX5_setNearness 34 = .ok (.iload_n 1, 1) := by decide +kernel
theorem dX5_setNearness_35 : decode cX5_setNearness 35 = .ok (.goto 4, 3) := by decide +kernel
theorem dX5_setNearness_38 : decode cX5_setNearness 38 = .ok (.iload_n 2, 1) := by decide +kernel
theorem dX5_setNearness_39 : decode cX5_setNearness 39 = .ok (.putfield 50, 3) := by decide +kernel
theorem dX5_setNearness_42 : decode cX5_setNearness 42 = .ok (.aload_n 0, 1) := by decide +kernel
theorem dX5_setNearness_43 : decode cX5_setNearness 43 = .ok (.getfield 62, 3) := by decide +kernel
theorem dX5_setNearness_46 : decode cX5_setNearness 46 = .ok (.ifCond .ne 7, 3) := by decide +kernel
theorem dX5_setNearness_49 : decode cX5_setNearness 49 = .ok (.iload_n 2, 1) := by decide +kernel
theorem dX5_setNearness_50 : decode cX5_setNearness 50 = .ok (.goto 4, 3) := by decide +kernel
theorem dX5_setNearness_53 : decode cX5_setNearness 53 = .ok (.iconst (-1), 1) := by decide +kernel
theorem dX5_setNearness_54 : decode cX5_setNearness 54 = .ok (.ireturn, 1) := by decide +kernel
theorem dX5_isPlace_0 : decode cX5_isPlace 0 = .ok (.iload_n 0, 1) := by decide +kernel
theorem dX5_isPlace_1 : decode cX5_isPlace 1 = .ok (.i2l, 1) := by decide +kernel
theorem dX5_isPlace_2 : decode cX5_isPlace 2 = .ok (.ldc2_w 103, 3) := by decide +kernel
theorem dX5_isPlace_5 : decode cX5_isPlace 5 = .ok (.ldc2_w 105, 3) := by decide +kernel
theorem dX5_isPlace_8 : decode cX5_isPlace 8 = .ok (.invokestatic 67, 3) := by decide +kernel
theorem dX5_isPlace_11 : decode cX5_isPlace 11 = .ok (.ifCond .eq 21, 3) := by decide +kernel
theorem dX5_isPlace_14 : decode cX5_isPlace 14 = .ok (.iload_n 1, 1) := by decide +kernel
theorem dX5_isPlace_15 : decode cX5_isPlace 15 = .ok (.i2l, 1) := by decide +kernel
theorem dX5_isPlace_16 : decode cX5_isPlace 16 = .ok (.ldc2_w 103, 3) := by decide +kernel
theorem dX5_isPlace_19 : decode cX5_isPlace 19 = .ok (.ldc2_w 105, 3) := by decide +kernel
theorem dX5_isPlace_22 : decode cX5_isPlace 22 = .ok (.invokestatic 67, 3) := by decide +kernel
theorem dX5_isPlace_25 : decode cX5_isPlace 25 = .ok (.ifCond .eq 7, 3) := by decide +kernel
theorem dX5_isPlace_28 : decode cX5_isPlace 28 = .ok (.iconst 1, 1) := by decide +kernel
theorem dX5_isPlace_29 : decode cX5_isPlace 29 = .ok (.goto 4, 3) := by decide +kernel
theorem dX5_isPlace_32 : decode cX5_isPlace 32 = .ok (.iconst 0, 1) := by decide +kernel
theorem dX5_isPlace_33 : decode cX5_isPlace 33 = .ok (.ireturn, 1) := by decide +kernel
theorem dX5_report_0 : decode cX5_report 0 = .ok (.aload_n 0, 1) := by decide +kernel
theorem dX5_report_1 : decode cX5_report 1 = .ok (.iload_n 1, 1) := by decide +kernel
theorem dX5_report_2 : decode cX5_report 2 = .ok (.invokestatic 84, 3) := by decide +kernel
theorem dX5_report_5 : decode cX5_report 5 = .ok (.ifCond .ne 7, 3) := by decide +kernel
theorem dX5_report_8 : decode cX5_report 8 = .ok (.iconst 1, 1) := by decide +kernel
theorem dX5_report_9 : decode cX5_report 9 = .ok (.goto 36, 3) := by decide +kernel
theorem dX5_report_12 : decode cX5_report 12 = .ok (.iload_n 2, 1) := by decide +kernel
theorem dX5_report_13 : decode cX5_report 13 = .ok (.invokestatic 80, 3) := by decide +kernel
theorem dX5_report_16 : decode cX5_report 16 = .ok (.ifCond .eq 12, 3) := by decide +kernel
theorem dX5_report_19 : decode cX5_report 19 = .ok (.iload_n 3, 1) := by decide +kernel
theorem dX5_report_20 : decode cX5_report 20 = .ok (.iload 4, 2) := by decide +kernel
theorem dX5_report_22 : decode cX5_report 22 = .ok (.invokestatic 107, 3) := by decide +kernel
theorem dX5_report_25 : decode cX5_report 25 = .ok (.ifCond .ne 7, 3) := by decide +kernel
theorem dX5_report_28 : decode cX5_report 28 = .ok (.iconst 2, 1) := by decide +kernel
theorem dX5_report_29 : decode cX5_report 29 = .ok (.goto 16, 3) := by decide +kernel
theorem dX5_report_32 : decode cX5_report 32 = .ok (.aload_n 0, 1) := by decide +kernel
theorem dX5_report_33 : decode cX5_report 33 = .ok (.getfield 111, 3) := by decide +kernel
theorem dX5_report_36 : decode cX5_report 36 = .ok (.iconst 4, 1) := by decide +kernel
theorem dX5_report_37 : decode cX5_report 37 = .ok (.if_icmp .ne 7, 3) := by decide +kernel
theorem dX5_report_40 : decode cX5_report 40 = .ok (.iconst 3, 1) := by decide +kernel
theorem dX5_report_41 : decode cX5_report 41 = .ok (.goto 4, 3) := by decide +kernel
theorem dX5_report_44 : decode cX5_report 44 = .ok (.iconst 0, 1) := by decide +kernel
theorem dX5_report_45 : decode cX5_report 45 = .ok (.putfield 62, 3) := by decide +kernel
theorem dX5_report_48 : decode cX5_report 48 = .ok (.aload_n 0, 1) := by decide +kernel
theorem dX5_report_49 : decode cX5_report 49 = .ok (.getfield 62, 3) := by decide +kernel
theorem dX5_report_52 : decode cX5_report 52 = .ok (.ifCond .le 5, 3) := by decide +kernel
theorem dX5_report_55 : decode cX5_report 55 = .ok (.iconst (-1), 1) := by decide +kernel
theorem dX5_report_56 : decode cX5_report 56 = .ok (.ireturn, 1) := by decide +kernel
theorem dX5_report_57 : decode cX5_report 57 = .ok (.aload_n 0, 1) := by decide +kernel
theorem dX5_report_58 : decode cX5_report 58 = .ok (.getfield 28, 3) := by decide +kernel
theorem dX5_report_61 : decode cX5_report 61 = .ok (.aload_n 0, 1) := by decide +kernel
theorem dX5_report_62 : decode cX5_report 62 = .ok (.getfield 111, 3) := by decide +kernel
theorem dX5_report_65 : decode cX5_report 65 = .ok (.aload_n 0, 1) := by decide +kernel
theorem dX5_report_66 : decode cX5_report 66 = .ok (.iload_n 1, 1) := by decide +kernel
theorem dX5_report_67 : decode cX5_report 67 = .ok (.iload_n 2, 1) := by decide +kernel
theorem dX5_report_68 : decode cX5_report 68 = .ok (.invokevirtual 92, 3) := by decide +kernel
theorem dX5_report_71 : decode cX5_report 71 = .ok (.iastore, 1) := by decide +kernel
theorem dX5_report_72 : decode cX5_report 72 = .ok (.aload_n 0, 1) := by decide +kernel
theorem dX5_report_73 : decode cX5_report 73 = .ok (.getfield 31, 3) := by decide +kernel
theorem dX5_report_76 : decode cX5_report 76 = .ok (.aload_n 0, 1) := by decide +kernel
theorem dX5_report_77 : decode cX5_report 77 = .ok (.getfield 111, 3) := by decide +kernel
theorem dX5_report_80 : decode cX5_report 80 = .ok (.iload_n 3, 1) := by decide +kernel
theorem dX5_report_81 : decode cX5_report 81 = .ok (.iastore, 1) := by decide +kernel
theorem dX5_report_82 : decode cX5_report 82 = .ok (.aload_n 0, 1) := by decide +kernel
theorem dX5_report_83 : decode cX5_report 83 = .ok (.getfield 34, 3) := by decide +kernel
theorem dX5_report_86 : decode cX5_report 86 = .ok (.aload_n 0, 1) := by decide +kernel
theorem dX5_report_87 : decode cX5_report 87 = .ok (.getfield 111, 3) := by decide +kernel
theorem dX5_report_90 : decode cX5_report 90 = .ok (.iload 4, 2) := by decide +kernel
theorem dX5_report_92 : decode cX5_report 92 = .ok (.iastore, 1) := by decide +kernel
theorem dX5_report_93 : decode cX5_report 93 = .ok (.aload_n 0, 1) := by decide +kernel
theorem dX5_report_94 : decode cX5_report 94 = .ok (.dup, 1) := by decide +kernel
theorem dX5_report_95 : decode cX5_report 95 = .ok (.getfield 111, 3) := by decide +kernel
theorem dX5_report_98 : decode cX5_report 98 = .ok (.iconst 1, 1) := by decide +kernel
theorem dX5_report_99 : decode cX5_report 99 = .ok (.iadd, 1) := by decide +kernel
theorem dX5_report_100 : decode cX5_report 100 = .ok (.putfield 111, 3) := by decide +kernel
theorem dX5_report_103 : decode cX5_report 103 = .ok (.aload_n 0, 1) := by decide +kernel
theorem dX5_report_104 : decode cX5_report 104 = .ok (.getfield 111, 3) := by decide +kernel
theorem dX5_report_107 : decode cX5_report 107 = .ok (.iconst 1, 1) := by decide +kernel
theorem dX5_report_108 : decode cX5_report 108 = .ok (.isub, 1) := by decide +kernel
theorem dX5_report_109 : decode cX5_report 109 = .ok (.ireturn, 1) := by decide +kernel
theorem dX5_clearBatch_0 : decode cX5_clearBatch 0 = .ok (.aload_n 0, 1) := by decide +kernel
theorem dX5_clearBatch_1 : decode cX5_clearBatch 1 = .ok (.iconst 0, 1) := by decide +kernel
theorem dX5_clearBatch_2 : decode cX5_clearBatch 2 = .ok (.putfield 62, 3) := by decide +kernel
theorem dX5_clearBatch_5 : decode cX5_clearBatch 5 = .ok (.aload_n 0, 1) := by decide +kernel
theorem dX5_clearBatch_6 : decode cX5_clearBatch 6 = .ok (.getfield 111, 3) := by decide +kernel
theorem dX5_clearBatch_9 : decode cX5_clearBatch 9 = .ok (.istore_n 1, 1) := by decide +kernel
theorem dX5_clearBatch_10 : decode cX5_clearBatch 10 = .ok (.aload_n 0, 1) := by decide +kernel
theorem dX5_clearBatch_11 : decode cX5_clearBatch 11 = .ok (.iconst 0, 1) := by decide +kernel
theorem dX5_clearBatch_12 : decode cX5_clearBatch 12 = .ok (.putfield 111, 3) := by decide +kernel
theorem dX5_clearBatch_15 : decode cX5_clearBatch 15 = .ok (.iload_n 1, 1) := by decide +kernel
theorem dX5_clearBatch_16 : decode cX5_clearBatch 16 = .ok (.ireturn, 1) := by decide +kernel
theorem dX5_ahead_0 : decode cX5_ahead 0 = .ok (.aload_n 0, 1) := by decide +kernel
theorem dX5_ahead_1 : decode cX5_ahead 1 = .ok (.iload_n 1, 1) := by decide +kernel
theorem dX5_ahead_2 : decode cX5_ahead 2 = .ok (.iconst 1, 1) := by decide +kernel
theorem dX5_ahead_3 : decode cX5_ahead 3 = .ok (.iload_n 3, 1) := by decide +kernel
theorem dX5_ahead_4 : decode cX5_ahead 4 = .ok (.iadd, 1) := by decide +kernel
theorem dX5_ahead_5 : decode cX5_ahead 5 = .ok (.invokevirtual 74, 3) := by decide +kernel
theorem dX5_ahead_8 : decode cX5_ahead 8 = .ok (.i2l, 1) := by decide +kernel
theorem dX5_ahead_9 : decode cX5_ahead 9 = .ok (.aload_n 0, 1) := by decide +kernel
theorem dX5_ahead_10 : decode cX5_ahead 10 = .ok (.iload_n 1, 1) := by decide +kernel
theorem dX5_ahead_11 : decode cX5_ahead 11 = .ok (.iconst 3, 1) := by decide +kernel
theorem dX5_ahead_12 : decode cX5_ahead 12 = .ok (.iload_n 3, 1) := by decide +kernel
theorem dX5_ahead_13 : decode cX5_ahead 13 = .ok (.iadd, 1) := by decide +kernel
theorem dX5_ahead_14 : decode cX5_ahead 14 = .ok (.invokevirtual 74, 3) := by decide +kernel
theorem dX5_ahead_17 : decode cX5_ahead 17 = .ok (.i2l, 1) := by decide +kernel
theorem dX5_ahead_18 : decode cX5_ahead 18 = .ok (.iload_n 2, 1) := by decide +kernel
theorem dX5_ahead_19 : decode cX5_ahead 19 = .ok (.aload_n 0, 1) := by decide +kernel
theorem dX5_ahead_20 : decode cX5_ahead 20 = .ok (.iload_n 1, 1) := by decide +kernel
theorem dX5_ahead_21 : decode cX5_ahead 21 = .ok (.iconst 0, 1) := by decide +kernel
theorem dX5_ahead_22 : decode cX5_ahead 22 = .ok (.invokevirtual 74, 3) := by decide +kernel
theorem dX5_ahead_25 : decode cX5_ahead 25 = .ok (.isub, 1) := by decide +kernel
theorem dX5_ahead_26 : decode cX5_ahead 26 = .ok (.i2l, 1) := by decide +kernel
theorem dX5_ahead_27 : decode cX5_ahead 27 = .ok (.lmul, 1) := by decide +kernel
theorem dX5_ahead_28 : decode cX5_ahead 28 = .ok (.ladd, 1) := by decide +kernel
theorem dX5_ahead_29 : decode cX5_ahead 29 = .ok (.lreturn, 1) := by decide +kernel
theorem dX5_residual_0 : decode cX5_residual 0 = .ok (.ldc2_w 97, 3) := by decide +kernel
theorem dX5_residual_3 : decode cX5_residual 3 = .ok (.iload_n 3, 1) := by decide +kernel
theorem dX5_residual_4 : decode cX5_residual 4 = .ok (.ifCond .ne 12, 3) := by decide +kernel
theorem dX5_residual_7 : decode cX5_residual 7 = .ok (.aload_n 0, 1) := by decide +kernel
theorem dX5_residual_8 : decode cX5_residual 8 = .ok (.getfield 31, 3) := by decide +kernel
theorem dX5_residual_11 : decode cX5_residual 11 = .ok (.iload_n 1, 1) := by decide +kernel
theorem dX5_residual_12 : decode cX5_residual 12 = .ok (.iaload, 1) := by decide +kernel
theorem dX5_residual_13 : decode cX5_residual 13 = .ok (.goto 9, 3) := by decide +kernel
theorem dX5_residual_16 : decode cX5_residual 16 = .ok (.aload_n 0, 1) := by decide +kernel
theorem dX5_residual_17 : decode cX5_residual 17 = .ok (.getfield 34, 3) := by decide +kernel
theorem dX5_residual_20 : decode cX5_residual 20 = .ok (.iload_n 1, 1) := by decide +kernel
theorem dX5_residual_21 : decode cX5_residual 21 = .ok (.iaload, 1) := by decide +kernel
theorem dX5_residual_22 : decode cX5_residual 22 = .ok (.i2l, 1) := by decide +kernel
theorem dX5_residual_23 : decode cX5_residual 23 = .ok (.lmul, 1) := by decide +kernel
theorem dX5_residual_24 : decode cX5_residual 24 = .ok (.aload_n 0, 1) := by decide +kernel
theorem dX5_residual_25 : decode cX5_residual 25 = .ok (.iload_n 2, 1) := by decide +kernel
theorem dX5_residual_26 : decode cX5_residual 26 = .ok (.aload_n 0, 1) := by decide +kernel
theorem dX5_residual_27 : decode cX5_residual 27 = .ok (.getfield 28, 3) := by decide +kernel
theorem dX5_residual_30 : decode cX5_residual 30 = .ok (.iload_n 1, 1) := by decide +kernel
theorem dX5_residual_31 : decode cX5_residual 31 = .ok (.iaload, 1) := by decide +kernel
theorem dX5_residual_32 : decode cX5_residual 32 = .ok (.iload_n 3, 1) := by decide +kernel
theorem dX5_residual_33 : decode cX5_residual 33 = .ok (.invokevirtual 114, 3) := by decide +kernel
theorem dX5_residual_36 : decode cX5_residual 36 = .ok (.lsub, 1) := by decide +kernel
theorem dX5_residual_37 : decode cX5_residual 37 = .ok (.lreturn, 1) := by decide +kernel
theorem dX5_distanceOf_0 : decode cX5_distanceOf 0 = .ok (.aload_n 0, 1) := by decide +kernel
theorem dX5_distanceOf_1 : decode cX5_distanceOf 1 = .ok (.iload_n 1, 1) := by decide +kernel
theorem dX5_distanceOf_2 : decode cX5_distanceOf 2 = .ok (.iload_n 2, 1) := by decide +kernel
theorem dX5_distanceOf_3 : decode cX5_distanceOf 3 = .ok (.iconst 0, 1) := by decide +kernel
theorem dX5_distanceOf_4 : decode cX5_distanceOf 4 = .ok (.invokevirtual 118, 3) := by decide +kernel
theorem dX5_distanceOf_7 : decode cX5_distanceOf 7 = .ok (.aload_n 0, 1) := by decide +kernel
theorem dX5_distanceOf_8 : decode cX5_distanceOf 8 = .ok (.iload_n 1, 1) := by decide +kernel
theorem dX5_distanceOf_9 : decode cX5_distanceOf 9 = .ok (.iload_n 2, 1) := by decide +kernel
theorem dX5_distanceOf_10 : decode cX5_distanceOf 10 = .ok (.iconst 0, 1) := by decide +kernel
theorem dX5_distanceOf_11 : decode cX5_distanceOf 11 = .ok (.invokevirtual 118, 3) := by decide +kernel
theorem dX5_distanceOf_14 : decode cX5_distanceOf 14 = .ok (.lmul, 1) := by decide +kernel
theorem dX5_distanceOf_15 : decode cX5_distanceOf 15 = .ok (.aload_n 0, 1) := by decide +kernel
theorem dX5_distanceOf_16 : decode cX5_distanceOf 16 = .ok (.iload_n 1, 1) := by decide +kernel
theorem dX5_distanceOf_17 : decode cX5_distanceOf 17 = .ok (.iload_n 2, 1) := by decide +kernel
theorem dX5_distanceOf_18 : decode cX5_distanceOf 18 = .ok (.iconst 1, 1) := by decide +kernel
theorem dX5_distanceOf_19 : decode cX5_distanceOf 19 = .ok (.invokevirtual 118, 3) := by decide +kernel
theorem dX5_distanceOf_22 : decode cX5_distanceOf 22 = .ok (.aload_n 0, 1) := by decide +kernel
theorem dX5_distanceOf_23 : decode cX5_distanceOf 23 = .ok (.iload_n 1, 1) := by decide +kernel
theorem dX5_distanceOf_24 : decode cX5_distanceOf 24 = .ok (.iload_n 2, 1) := by decide +kernel
theorem dX5_distanceOf_25 : decode cX5_distanceOf 25 = .ok (.iconst 1, 1) := by decide +kernel
theorem dX5_distanceOf_26 : decode cX5_distanceOf 26 = .ok (.invokevirtual 118, 3) := by decide +kernel
theorem dX5_distanceOf_29 : decode cX5_distanceOf 29 = .ok (.lmul, 1) := by decide +kernel
theorem dX5_distanceOf_30 : decode cX5_distanceOf 30 = .ok (.ladd, 1) := by decide +kernel
theorem dX5_distanceOf_31 : decode cX5_distanceOf 31 = .ok (.lreturn, 1) := by decide +kernel
theorem dX5_gateSquare_0 : decode cX5_gateSquare 0 = .ok (.ldc2_w 121, 3) := by decide +kernel
theorem dX5_gateSquare_3 : decode cX5_gateSquare 3 = .ok (.aload_n 0, 1) := by decide +kernel
theorem dX5_gateSquare_4 : decode cX5_gateSquare 4 = .ok (.getfield 37, 3) := by decide +kernel
theorem dX5_gateSquare_7 : decode cX5_gateSquare 7 = .ok (.i2l, 1) := by decide +kernel
theorem dX5_gateSquare_8 : decode cX5_gateSquare 8 = .ok (.lmul, 1) := by decide +kernel
theorem dX5_gateSquare_9 : decode cX5_gateSquare 9 = .ok (.aload_n 0, 1) := by decide +kernel
theorem dX5_gateSquare_10 : decode cX5_gateSquare 10 = .ok (.getfield 37, 3) := by decide +kernel
theorem dX5_gateSquare_13 : decode cX5_gateSquare 13 = .ok (.i2l, 1) := by decide +kernel
theorem dX5_gateSquare_14 : decode cX5_gateSquare 14 = .ok (.lmul, 1) := by decide +kernel
theorem dX5_gateSquare_15 : decode cX5_gateSquare 15 = .ok (.lreturn, 1) := by decide +kernel
theorem dX5_takes_0 : decode cX5_takes 0 = .ok (.aload_n 0, 1) := by decide +kernel
theorem dX5_takes_1 : decode cX5_takes 1 = .ok (.iload_n 2, 1) := by decide +kernel
theorem dX5_takes_2 : decode cX5_takes 2 = .ok (.invokevirtual 123, 3) := by decide +kernel
theorem dX5_takes_5 : decode cX5_takes 5 = .ok (.ifCond .eq 36, 3) := by decide +kernel
theorem dX5_takes_8 : decode cX5_takes 8 = .ok (.aload_n 0, 1) := by decide +kernel
theorem dX5_takes_9 : decode cX5_takes 9 = .ok (.getfield 28, 3) := by decide +kernel
theorem dX5_takes_12 : decode cX5_takes 12 = .ok (.iload_n 1, 1) := by decide +kernel
theorem dX5_takes_13 : decode cX5_takes 13 = .ok (.iaload, 1) := by decide +kernel
theorem dX5_takes_14 : decode cX5_takes 14 = .ok (.aload_n 0, 1) := by decide +kernel
theorem dX5_takes_15 : decode cX5_takes 15 = .ok (.iload_n 2, 1) := by decide +kernel
theorem dX5_takes_16 : decode cX5_takes 16 = .ok (.iconst 0, 1) := by decide +kernel
theorem dX5_takes_17 : decode cX5_takes 17 = .ok (.invokevirtual 74, 3) := by decide +kernel
theorem dX5_takes_20 : decode cX5_takes 20 = .ok (.if_icmp .lt 21, 3) := by decide +kernel
theorem dX5_takes_23 : decode cX5_takes 23 = .ok (.aload_n 0, 1) := by decide +kernel
theorem dX5_takes_24 : decode cX5_takes 24 = .ok (.iload_n 1, 1) := by decide +kernel
theorem dX5_takes_25 : decode cX5_takes 25 = .ok (.iload_n 2, 1) := by decide +kernel
theorem dX5_takes_26 : decode cX5_takes 26 = .ok (.invokevirtual 126, 3) := by decide +kernel
theorem dX5_takes_29 : decode cX5_takes 29 = .ok (.aload_n 0, 1) := by decide +kernel
theorem dX5_takes_30 : decode cX5_takes 30 = .ok (.invokevirtual 130, 3) := by decide +kernel
theorem dX5_takes_33 : decode cX5_takes 33 = .ok (.lcmp, 1) := by decide +kernel
theorem dX5_takes_34 : decode cX5_takes 34 = .ok (.ifCond .gt 7, 3) := by decide +kernel
theorem dX5_takes_37 : decode cX5_takes 37 = .ok (.iconst 1, 1) := by decide +kernel
theorem dX5_takes_38 : decode cX5_takes 38 = .ok (.goto 4, 3) := by decide +kernel
theorem dX5_takes_41 : decode cX5_takes 41 = .ok (.iconst 0, 1) := by decide +kernel
theorem dX5_takes_42 : decode cX5_takes 42 = .ok (.ireturn, 1) := by decide +kernel
theorem dX5_tries_0 : decode cX5_tries 0 = .ok (.iload_n 1, 1) := by decide +kernel
theorem dX5_tries_1 : decode cX5_tries 1 = .ok (.aload_n 0, 1) := by decide +kernel
theorem dX5_tries_2 : decode cX5_tries 2 = .ok (.getfield 111, 3) := by decide +kernel
theorem dX5_tries_5 : decode cX5_tries 5 = .ok (.if_icmp .ne 61, 3) := by decide +kernel
theorem dX5_tries_8 : decode cX5_tries 8 = .ok (.aload_n 0, 1) := by decide +kernel
theorem dX5_tries_9 : decode cX5_tries 9 = .ok (.getfield 134, 3) := by decide +kernel
theorem dX5_tries_12 : decode cX5_tries 12 = .ok (.ldc2_w 138, 3) := by decide +kernel
theorem dX5_tries_15 : decode cX5_tries 15 = .ok (.lcmp, 1) := by decide +kernel
theorem dX5_tries_16 : decode cX5_tries 16 = .ok (.ifCond .eq 12, 3) := by decide +kernel
theorem dX5_tries_19 : decode cX5_tries 19 = .ok (.lload_n 2, 1) := by decide +kernel
theorem dX5_tries_20 : decode cX5_tries 20 = .ok (.aload_n 0, 1) := by decide +kernel
theorem dX5_tries_21 : decode cX5_tries 21 = .ok (.getfield 134, 3) := by decide +kernel
theorem dX5_tries_24 : decode cX5_tries 24 = .ok (.lcmp, 1) := by decide +kernel
theorem dX5_tries_25 : decode cX5_tries 25 = .ok (.ifCond .ge 40, 3) := by decide +kernel
theorem dX5_tries_28 : decode cX5_tries 28 = .ok (.aload_n 0, 1) := by decide +kernel
theorem dX5_tries_29 : decode cX5_tries 29 = .ok (.lload_n 2, 1) := by decide +kernel
theorem dX5_tries_30 : decode cX5_tries 30 = .ok (.putfield 134, 3) := by decide +kernel
theorem dX5_tries_33 : decode cX5_tries 33 = .ok (.iconst 0, 1) := by decide +kernel
theorem dX5_tries_34 : decode cX5_tries 34 = .ok (.istore 4, 2) := by decide +kernel
theorem dX5_tries_36 : decode cX5_tries 36 = .ok (.iload 4, 2) := by decide +kernel
theorem dX5_tries_38 : decode cX5_tries 38 = .ok (.aload_n 0, 1) := by decide +kernel
theorem dX5_tries_39 : decode cX5_tries 39 = .ok (.getfield 111, 3) := by decide +kernel
theorem dX5_tries_42 : decode cX5_tries 42 = .ok (.if_icmp .ge 23, 3) := by decide +kernel
theorem dX5_tries_45 : decode cX5_tries 45 = .ok (.aload_n 0, 1) := by decide +kernel
theorem dX5_tries_46 : decode cX5_tries 46 = .ok (.getfield 56, 3) := by decide +kernel
theorem dX5_tries_49 : decode cX5_tries 49 = .ok (.iload 4, 2) := by decide +kernel
theorem dX5_tries_51 : decode cX5_tries 51 = .ok (.aload_n 0, 1) := by decide +kernel
theorem dX5_tries_52 : decode cX5_tries 52 = .ok (.getfield 53, 3) := by decide +kernel
theorem dX5_tries_55 : decode cX5_tries 55 = .ok (.iload 4, 2) := by decide +kernel
theorem dX5_tries_57 : decode cX5_tries 57 = .ok (.iaload, 1) := by decide +kernel
theorem dX5_tries_58 : decode cX5_tries 58 = .ok (.iastore, 1) := by decide +kernel
theorem dX5_tries_59 : decode cX5_tries 59 = .ok (.iinc 4 1, 3) := by decide +kernel
theorem dX5_tries_62 : decode cX5_tries 62 = .ok (.goto (-26), 3) := by decide +kernel
theorem dX5_tries_65 : decode cX5_tries 65 = .ok (.return_, 1) := by decide +kernel
theorem dX5_tries_66 : decode cX5_tries 66 = .ok (.iconst 0, 1) := by decide +kernel
theorem dX5_tries_67 : decode cX5_tries 67 = .ok (.istore 4, 2) := by decide +kernel
theorem dX5_tries_69 : decode cX5_tries 69 = .ok (.iload 4, 2) := by decide +kernel
theorem dX5_tries_71 : decode cX5_tries 71 = .ok (.aload_n 0, 1) := by decide +kernel
theorem dX5_tries_72 : decode cX5_tries 72 = .ok (.getfield 71, 3) := by decide +kernel
theorem dX5_tries_75 : decode cX5_tries 75 = .ok (.if_icmp .ge 86, 3) := by decide +kernel
theorem dX5_tries_78 : decode cX5_tries 78 = .ok (.aload_n 0, 1) := by decide +kernel
theorem dX5_tries_79 : decode cX5_tries 79 = .ok (.iload_n 1, 1) := by decide +kernel
theorem dX5_tries_80 : decode cX5_tries 80 = .ok (.iload 4, 2) := by decide +kernel
theorem dX5_tries_82 : decode cX5_tries 82 = .ok (.invokevirtual 140, 3) := by decide +kernel
theorem dX5_tries_85 : decode cX5_tries 85 = .ok (.istore 5, 2) := by decide +kernel
theorem dX5_tries_87 : decode cX5_tries 87 = .ok (.iconst 0, 1) := by decide +kernel
theorem dX5_tries_88 : decode cX5_tries 88 = .ok (.istore 6, 2) := by decide +kernel
theorem dX5_tries_90 : decode cX5_tries 90 = .ok (.iload 6, 2) := by decide +kernel
theorem dX5_tries_92 : decode cX5_tries 92 = .ok (.iload_n 1, 1) := by decide +kernel
theorem dX5_tries_93 : decode cX5_tries 93 = .ok (.if_icmp .ge 33, 3) := by decide +kernel
theorem dX5_tries_96 : decode cX5_tries 96 = .ok (.iload 5, 2) := by decide +kernel
theorem dX5_tries_98 : decode cX5_tries 98 = .ok (.ifCond .eq 28, 3) := by decide +kernel
theorem dX5_tries_101 : decode cX5_tries 101 = .ok (.aload_n 0, 1) := by decide +kernel
theorem dX5_tries_102 : decode cX5_tries 102 = .ok (.getfield 53, 3) := by decide +kernel
theorem dX5_tries_105 : decode cX5_tries 105 = .ok (.iload 6, 2) := by decide +kernel
theorem dX5_tries_107 : decode cX5_tries 107 = .ok (.iaload, 1) := by decide +kernel
theorem dX5_tries_108 : decode cX5_tries 108 = .ok (.iload 4, 2) := by decide +kernel
theorem dX5_tries_110 : decode cX5_tries 110 = .ok (.if_icmp .eq 7, 3) := by decide +kernel
theorem dX5_tries_113 : decode cX5_tries 113 = .ok (.iconst 1, 1) := by decide +kernel
theorem dX5_tries_114 : decode cX5_tries 114 = .ok (.goto 4, 3) := by decide +kernel
theorem dX5_tries_117 : decode cX5_tries 117 = .ok (.iconst 0, 1) := by decide +kernel
theorem dX5_tries_118 : decode cX5_tries 118 = .ok (.istore 5, 2) := by decide +kernel
theorem dX5_tries_120 : decode cX5_tries 120 = .ok (.iinc 6 1, 3) := by decide +kernel
theorem dX5_tries_123 : decode cX5_tries 123 = .ok (.goto (-33), 3) := by decide +kernel
theorem dX5_tries_126 : decode cX5_tries 126 = .ok (.iload 5, 2) := by decide +kernel
theorem dX5_tries_128 : decode cX5_tries 128 = .ok (.ifCond .eq 27, 3) := by decide +kernel
theorem dX5_tries_131 : decode cX5_tries 131 = .ok (.aload_n 0, 1) := by decide +kernel
theorem dX5_tries_132 : decode cX5_tries 132 = .ok (.getfield 53, 3) := by decide +kernel
theorem dX5_tries_135 : decode cX5_tries 135 = .ok (.iload_n 1, 1) := by decide +kernel
theorem dX5_tries_136 : decode cX5_tries 136 = .ok (.iload 4, 2) := by decide +kernel
theorem dX5_tries_138 : decode cX5_tries 138 = .ok (.iastore, 1) := by decide +kernel
theorem dX5_tries_139 : decode cX5_tries 139 = .ok (.aload_n 0, 1) := by decide +kernel
theorem dX5_tries_140 : decode cX5_tries 140 = .ok (.iload_n 1, 1) := by decide +kernel
theorem dX5_tries_141 : decode cX5_tries 141 = .ok (.iconst 1, 1) := by decide +kernel
theorem dX5_tries_142 : decode cX5_tries 142 = .ok (.iadd, 1) := by decide +kernel
theorem dX5_tries_143 : decode cX5_tries 143 = .ok (.lload_n 2, 1) := by decide +kernel
theorem dX5_tries_144 : decode cX5_tries 144 = .ok (.aload_n 0, 1) := by decide +kernel
theorem dX5_tries_145 : decode cX5_tries 145 = .ok (.iload_n 1, 1) := by decide +kernel
theorem dX5_tries_146 : decode cX5_tries 146 = .ok (.iload 4, 2) := by decide +kernel
theorem dX5_tries_148 : decode cX5_tries 148 = .ok (.invokevirtual 126, 3) := by decide +kernel
theorem dX5_tries_151 : decode cX5_tries 151 = .ok (.ladd, 1) := by decide +kernel
theorem dX5_tries_152 : decode cX5_tries 152 = .ok (.invokevirtual 143, 3) := by decide +kernel
theorem dX5_tries_155 : decode cX5_tries 155 = .ok (.iinc 4 1, 3) := by decide +kernel
theorem dX5_tries_158 : decode cX5_tries 158 = .ok (.goto (-89), 3) := by decide +kernel
theorem dX5_tries_161 : decode cX5_tries 161 = .ok (.aload_n 0, 1) := by decide +kernel
theorem dX5_tries_162 : decode cX5_tries 162 = .ok (.getfield 53, 3) := by decide +kernel
theorem dX5_tries_165 : decode cX5_tries 165 = .ok (.iload_n 1, 1) := by decide +kernel
theorem dX5_tries_166 : decode cX5_tries 166 = .ok (.iconst (-1), 1) := by decide +kernel
theorem dX5_tries_167 : decode cX5_tries 167 = .ok (.iastore, 1) := by decide +kernel
theorem dX5_tries_168 : decode cX5_tries 168 = .ok (.aload_n 0, 1) := by decide +kernel
theorem dX5_tries_169 : decode cX5_tries 169 = .ok (.iload_n 1, 1) := by decide +kernel
theorem dX5_tries_170 : decode cX5_tries 170 = .ok (.iconst 1, 1) := by decide +kernel
theorem dX5_tries_171 : decode cX5_tries 171 = .ok (.iadd, 1) := by decide +kernel
theorem dX5_tries_172 : decode cX5_tries 172 = .ok (.lload_n 2, 1) := by decide +kernel
theorem dX5_tries_173 : decode cX5_tries 173 = .ok (.aload_n 0, 1) := by decide +kernel
theorem dX5_tries_174 : decode cX5_tries 174 = .ok (.invokevirtual 130, 3) := by decide +kernel
theorem dX5_tries_177 : decode cX5_tries 177 = .ok (.ladd, 1) := by decide +kernel
theorem dX5_tries_178 : decode cX5_tries 178 = .ok (.invokevirtual 143, 3) := by decide +kernel
theorem dX5_tries_181 : decode cX5_tries 181 = .ok (.return_, 1) := by decide +kernel
theorem dX5_looks_0 : decode cX5_looks 0 = .ok (.aload_n 0, 1) := by decide +kernel
theorem dX5_looks_1 : decode cX5_looks 1 = .ok (.ldc2_w 138, 3) := by decide +kernel
theorem dX5_looks_4 : decode cX5_looks 4 = .ok (.putfield 134, 3) := by decide +kernel
theorem dX5_looks_7 : decode cX5_looks 7 = .ok (.aload_n 0, 1) := by decide +kernel
theorem dX5_looks_8 : decode cX5_looks 8 = .ok (.iconst 0, 1) := by decide +kernel
theorem dX5_looks_9 : decode cX5_looks 9 = .ok (.lconst 0, 1) := by decide +kernel
theorem dX5_looks_10 : decode cX5_looks 10 = .ok (.invokevirtual 143, 3) := by decide +kernel
theorem dX5_looks_13 : decode cX5_looks 13 = .ok (.return_, 1) := by decide +kernel
theorem dX5_notes_0 : decode cX5_notes 0 = .ok (.aload_n 0, 1) := by decide +kernel
theorem dX5_notes_1 : decode cX5_notes 1 = .ok (.getfield 25, 3) := by decide +kernel
theorem dX5_notes_4 : decode cX5_notes 4 = .ok (.iload_n 1, 1) := by decide +kernel
theorem dX5_notes_5 : decode cX5_notes 5 = .ok (.iaload, 1) := by decide +kernel
theorem dX5_notes_6 : decode cX5_notes 6 = .ok (.aload_n 0, 1) := by decide +kernel
theorem dX5_notes_7 : decode cX5_notes 7 = .ok (.getfield 21, 3) := by decide +kernel
theorem dX5_notes_10 : decode cX5_notes 10 = .ok (.iload_n 1, 1) := by decide +kernel
theorem dX5_notes_11 : decode cX5_notes 11 = .ok (.aaload, 1) := by decide +kernel
theorem dX5_notes_12 : decode cX5_notes 12 = .ok (.arraylength, 1) := by decide +kernel
theorem dX5_notes_13 : decode cX5_notes 13 = .ok (.if_icmp .ne 54, 3) := by decide +kernel
theorem dX5_notes_16 : decode cX5_notes 16 = .ok (.iconst 2, 1) := by decide +kernel
theorem dX5_notes_17 : decode cX5_notes 17 = .ok (.aload_n 0, 1) := by decide +kernel
theorem dX5_notes_18 : decode cX5_notes 18 = .ok (.getfield 25, 3) := by decide +kernel
theorem dX5_notes_21 : decode cX5_notes 21 = .ok (.iload_n 1, 1) := by decide +kernel
theorem dX5_notes_22 : decode cX5_notes 22 = .ok (.iaload, 1) := by decide +kernel
theorem dX5_notes_23 : decode cX5_notes 23 = .ok (.imul, 1) := by decide +kernel
theorem dX5_notes_24 : decode cX5_notes 24 = .ok (.newarray .char, 2) := by decide +kernel
theorem dX5_notes_26 : decode cX5_notes 26 = .ok (.astore_n 3, 1) := by decide +kernel
theorem dX5_notes_27 : decode cX5_notes 27 = .ok (.iconst 0, 1) := by decide +kernel
theorem dX5_notes_28 : decode cX5_notes 28 = .ok (.istore 4, 2) := by decide +kernel
theorem dX5_notes_30 : decode cX5_notes 30 = .ok (.iload 4, 2) := by decide +kernel
theorem dX5_notes_32 : decode cX5_notes 32 = .ok (.aload_n 0, 1) := by decide +kernel
theorem dX5_notes_33 : decode cX5_notes 33 = .ok (.getfield 25, 3) := by decide +kernel
theorem dX5_notes_36 : decode cX5_notes 36 = .ok (.iload_n 1, 1) := by decide +kernel
theorem dX5_notes_37 : decode cX5_notes 37 = .ok (.iaload, 1) := by decide +kernel
theorem dX5_notes_38 : decode cX5_notes 38 = .ok (.if_icmp .ge 22, 3) := by decide +kernel
theorem dX5_notes_41 : decode cX5_notes 41 = .ok (.aload_n 3, 1) := by decide +kernel
theorem dX5_notes_42 : decode cX5_notes 42 = .ok (.iload 4, 2) := by decide +kernel
theorem dX5_notes_44 : decode cX5_notes 44 = .ok (.aload_n 0, 1) := by decide +kernel
theorem dX5_notes_45 : decode cX5_notes 45 = .ok (.getfield 21, 3) := by decide +kernel
theorem dX5_notes_48 : decode cX5_notes 48 = .ok (.iload_n 1, 1) := by decide +kernel
theorem dX5_notes_49 : decode cX5_notes 49 = .ok (.aaload, 1) := by decide +kernel
theorem dX5_notes_50 : decode cX5_notes 50 = .ok (.iload 4, 2) := by decide +kernel
theorem dX5_notes_52 : decode cX5_notes 52 = .ok (.caload, 1) := by decide +kernel
theorem dX5_notes_53 : decode cX5_notes 53 = .ok (.castore, 1) := by decide +kernel
theorem dX5_notes_54 : decode cX5_notes 54 = .ok (.iinc 4 1, 3) := by decide +kernel
theorem dX5_notes_57 : decode cX5_notes 57 = .ok (.goto (-27), 3) := by decide +kernel
theorem dX5_notes_60 : decode cX5_notes 60 = .ok (.aload_n 0, 1) := by decide +kernel
theorem dX5_notes_61 : decode cX5_notes 61 = .ok (.getfield 21, 3) := by decide +kernel
theorem dX5_notes_64 : decode cX5_notes 64 = .ok (.iload_n 1, 1) := by decide +kernel
theorem dX5_notes_65 : decode cX5_notes 65 = .ok (.aload_n 3, 1) := by decide +kernel
theorem dX5_notes_66 : decode cX5_notes 66 = .ok (.aastore, 1) := by decide +kernel
theorem dX5_notes_67 : decode cX5_notes 67 = .ok (.aload_n 0, 1) := by decide +kernel
theorem dX5_notes_68 : decode cX5_notes 68 = .ok (.getfield 21, 3) := by decide +kernel
theorem dX5_notes_71 : decode cX5_notes 71 = .ok (.iload_n 1, 1) := by decide +kernel
theorem dX5_notes_72 : decode cX5_notes 72 = .ok (.aaload, 1) := by decide +kernel
theorem dX5_notes_73 : decode cX5_notes 73 = .ok (.aload_n 0, 1) := by decide +kernel
theorem dX5_notes_74 : decode cX5_notes 74 = .ok (.getfield 25, 3) := by decide +kernel
theorem dX5_notes_77 : decode cX5_notes 77 = .ok (.iload_n 1, 1) := by decide +kernel
theorem dX5_notes_78 : decode cX5_notes 78 = .ok (.iaload, 1) := by decide +kernel
theorem dX5_notes_79 : decode cX5_notes 79 = .ok (.iload_n 2, 1) := by decide +kernel
theorem dX5_notes_80 : decode cX5_notes 80 = .ok (.castore, 1) := by decide +kernel
theorem dX5_notes_81 : decode cX5_notes 81 = .ok (.aload_n 0, 1) := by decide +kernel
theorem dX5_notes_82 : decode cX5_notes 82 = .ok (.getfield 25, 3) := by decide +kernel
theorem dX5_notes_85 : decode cX5_notes 85 = .ok (.iload_n 1, 1) := by decide +kernel
theorem dX5_notes_86 : decode cX5_notes 86 = .ok (.dup2, 1) := by decide +kernel
theorem dX5_notes_87 : decode cX5_notes 87 = .ok (.iaload, 1) := by decide +kernel
theorem dX5_notes_88 : decode cX5_notes 88 = .ok (.iconst 1, 1) := by decide +kernel
theorem dX5_notes_89 : decode cX5_notes 89 = .ok (.iadd, 1) := by decide +kernel
theorem dX5_notes_90 : decode cX5_notes 90 = .ok (.iastore, 1) := by decide +kernel
theorem dX5_notes_91 : decode cX5_notes 91 = .ok (.return_, 1) := by decide +kernel
theorem dX5_changes_0 : decode cX5_changes 0 = .ok (.aload_n 0, 1) := by decide +kernel
theorem dX5_changes_1 : decode cX5_changes 1 = .ok (.getfield 28, 3) := by decide +kernel
theorem dX5_changes_4 : decode cX5_changes 4 = .ok (.iload_n 2, 1) := by decide +kernel
theorem dX5_changes_5 : decode cX5_changes 5 = .ok (.iaload, 1) := by decide +kernel
theorem dX5_changes_6 : decode cX5_changes 6 = .ok (.aload_n 0, 1) := by decide +kernel
theorem dX5_changes_7 : decode cX5_changes 7 = .ok (.iload_n 1, 1) := by decide +kernel
theorem dX5_changes_8 : decode cX5_changes 8 = .ok (.iconst 0, 1) := by decide +kernel
theorem dX5_changes_9 : decode cX5_changes 9 = .ok (.invokevirtual 74, 3) := by decide +kernel
theorem dX5_changes_12 : decode cX5_changes 12 = .ok (.isub, 1) := by decide +kernel
theorem dX5_changes_13 : decode cX5_changes 13 = .ok (.istore_n 3, 1) := by decide +kernel
theorem dX5_changes_14 : decode cX5_changes 14 = .ok (.iconst 0, 1) := by decide +kernel
theorem dX5_changes_15 : decode cX5_changes 15 = .ok (.istore 4, 2) := by decide +kernel
theorem dX5_changes_17 : decode cX5_changes 17 = .ok (.iload 4, 2) := by decide +kernel
theorem dX5_changes_19 : decode cX5_changes 19 = .ok (.iconst 2, 1) := by decide +kernel
theorem dX5_changes_20 : decode cX5_changes 20 = .ok (.if_icmp .ge 121, 3) := by decide +kernel
theorem dX5_changes_23 : decode cX5_changes 23 = .ok (.aload_n 0, 1) := by decide +kernel
theorem dX5_changes_24 : decode cX5_changes 24 = .ok (.iload_n 2, 1) := by decide +kernel
theorem dX5_changes_25 : decode cX5_changes 25 = .ok (.iload_n 1, 1) := by decide +kernel
theorem dX5_changes_26 : decode cX5_changes 26 = .ok (.iload 4, 2) := by decide +kernel
theorem dX5_changes_28 : decode cX5_changes 28 = .ok (.invokevirtual 118, 3) := by decide +kernel
theorem dX5_changes_31 : decode cX5_changes 31 = .ok (.lstore 5, 2) := by decide +kernel
theorem dX5_changes_33 : decode cX5_changes 33 = .ok (.aload_n 0, 1) := by decide +kernel
theorem dX5_changes_34 : decode cX5_changes 34 = .ok (.iload_n 1, 1) := by decide +kernel
theorem dX5_changes_35 : decode cX5_changes 35 = .ok (.aload_n 0, 1) := by decide +kernel
theorem dX5_changes_36 : decode cX5_changes 36 = .ok (.getfield 28, 3) := by decide +kernel
theorem dX5_changes_39 : decode cX5_changes 39 = .ok (.iload_n 2, 1) := by decide +kernel
theorem dX5_changes_40 : decode cX5_changes 40 = .ok (.iaload, 1) := by decide +kernel
theorem dX5_changes_41 : decode cX5_changes 41 = .ok (.iload 4, 2) := by decide +kernel
theorem dX5_changes_43 : decode cX5_changes 43 = .ok (.invokevirtual 114, 3) := by decide +kernel
theorem dX5_changes_46 : decode cX5_changes 46 = .ok (.lload 5, 2) := by decide +kernel
theorem dX5_changes_48 : decode cX5_changes 48 = .ok (.aload_n 0, 1) := by decide +kernel
theorem dX5_changes_49 : decode cX5_changes 49 = .ok (.getfield 41, 3) := by decide +kernel
theorem dX5_changes_52 : decode cX5_changes 52 = .ok (.i2l, 1) := by decide +kernel
theorem dX5_changes_53 : decode cX5_changes 53 = .ok (.lmul, 1) := by decide +kernel
theorem dX5_changes_54 : decode cX5_changes 54 = .ok (.ldc2_w 97, 3) := by decide +kernel
theorem dX5_changes_57 : decode cX5_changes 57 = .ok (.ldiv, 1) := by decide +kernel
theorem dX5_changes_58 : decode cX5_changes 58 = .ok (.ladd, 1) := by decide +kernel
theorem dX5_changes_59 : decode cX5_changes 59 = .ok (.lstore 7, 2) := by decide +kernel
theorem dX5_changes_61 : decode cX5_changes 61 = .ok (.aload_n 0, 1) := by decide +kernel
theorem dX5_changes_62 : decode cX5_changes 62 = .ok (.iload_n 1, 1) := by decide +kernel
theorem dX5_changes_63 : decode cX5_changes 63 = .ok (.iconst 3, 1) := by decide +kernel
theorem dX5_changes_64 : decode cX5_changes 64 = .ok (.iload 4, 2) := by decide +kernel
theorem dX5_changes_66 : decode cX5_changes 66 = .ok (.iadd, 1) := by decide +kernel
theorem dX5_changes_67 : decode cX5_changes 67 = .ok (.invokevirtual 74, 3) := by decide +kernel
theorem dX5_changes_70 : decode cX5_changes 70 = .ok (.i2l, 1) := by decide +kernel
theorem dX5_changes_71 : decode cX5_changes 71 = .ok (.lstore 9, 2) := by decide +kernel
theorem dX5_changes_73 : decode cX5_changes 73 = .ok (.iload_n 3, 1) := by decide +kernel
theorem dX5_changes_74 : decode cX5_changes 74 = .ok (.ifCond .le 39, 3) := by decide +kernel
theorem dX5_changes_77 : decode cX5_changes 77 = .ok (.lload 9, 2) := by decide +kernel
theorem dX5_changes_79 : decode cX5_changes 79 = .ok (.lload 5, 2) := by decide +kernel
theorem dX5_changes_81 : decode cX5_changes 81 = .ok (.aload_n 0, 1) := by decide +kernel
theorem dX5_changes_82 : decode cX5_changes 82 = .ok (.getfield 44, 3) := by decide +kernel
theorem dX5_changes_85 : decode cX5_changes 85 = .ok (.i2l, 1) := by decide +kernel
theorem dX5_changes_86 : decode cX5_changes 86 = .ok (.lmul, 1) := by decide +kernel
theorem dX5_changes_87 : decode cX5_changes 87 = .ok (.ldc2_w 97, 3) := by decide +kernel
theorem dX5_changes_90 : decode cX5_changes 90 = .ok (.iload_n 3, 1) := by decide +kernel
theorem dX5_changes_91 : decode cX5_changes 91 = .ok (.i2l, 1) := by decide +kernel
theorem dX5_changes_92 : decode cX5_changes 92 = .ok (.lmul, 1) := by decide +kernel
theorem dX5_changes_93 : decode cX5_changes 93 = .ok (.ldiv, 1) := by decide +kernel
theorem dX5_changes_94 : decode cX5_changes 94 = .ok (.ladd, 1) := by decide +kernel
theorem dX5_changes_95 : decode cX5_changes 95 = .ok (.lstore 9, 2) := by decide +kernel
theorem dX5_changes_97 : decode cX5_changes 97 = .ok (.ldc2_w 147, 3) := by decide +kernel
theorem dX5_changes_100 : decode cX5_changes 100 = .ok (.ldc2_w 149, 3) := by decide +kernel
theorem dX5_changes_103 : decode cX5_changes 103 = .ok (.lload 9, 2) := by decide +kernel
theorem dX5_changes_105 : decode cX5_changes 105 = .ok (.invokestatic 151, 3) := by decide +kernel
theorem dX5_changes_108 : decode cX5_changes 108 = .ok (.invokestatic 155, 3) := by decide +kernel
theorem dX5_changes_111 : decode cX5_changes 111 = .ok (.lstore 9, 2) := by decide +kernel
theorem dX5_changes_113 : decode cX5_changes 113 = .ok (.aload_n 0, 1) := by decide +kernel
theorem dX5_changes_114 : decode cX5_changes 114 = .ok (.iload_n 1, 1) := by decide +kernel
theorem dX5_changes_115 : decode cX5_changes 115 = .ok (.iconst 1, 1) := by decide +kernel
theorem dX5_changes_116 : decode cX5_changes 116 = .ok (.iload 4, 2) := by decide +kernel
theorem dX5_changes_118 : decode cX5_changes 118 = .ok (.iadd, 1) := by decide +kernel
theorem dX5_changes_119 : decode cX5_changes 119 = .ok (.lload 7, 2) := by decide +kernel
theorem dX5_changes_121 : decode cX5_changes 121 = .ok (.l2i, 1) := by decide +kernel
theorem dX5_changes_122 : decode cX5_changes 122 = .ok (.invokevirtual 158, 3) := by decide +kernel
theorem dX5_changes_125 : decode cX5_changes 125 = .ok (.aload_n 0, 1) := by decide +kernel
theorem dX5_changes_126 : decode cX5_changes 126 = .ok (.getfield 59, 3) := by decide +kernel
theorem dX5_changes_129 : decode cX5_changes 129 = .ok (.iload 4, 2) := by decide +kernel
theorem dX5_changes_131 : decode cX5_changes 131 = .ok (.lload 9, 2) := by decide +kernel
theorem dX5_changes_133 : decode cX5_changes 133 = .ok (.l2i, 1) := by decide +kernel
theorem dX5_changes_134 : decode cX5_changes 134 = .ok (.iastore, 1) := by decide +kernel
theorem dX5_changes_135 : decode cX5_changes 135 = .ok (.iinc 4 1, 3) := by decide +kernel
theorem dX5_changes_138 : decode cX5_changes 138 = .ok (.goto (-121), 3) := by decide +kernel
theorem dX5_changes_141 : decode cX5_changes 141 = .ok (.aload_n 0, 1) := by decide +kernel
theorem dX5_changes_142 : decode cX5_changes 142 = .ok (.iload_n 1, 1) := by decide +kernel
theorem dX5_changes_143 : decode cX5_changes 143 = .ok (.iconst 3, 1) := by decide +kernel
theorem dX5_changes_144 : decode cX5_changes 144 = .ok (.aload_n 0, 1) := by decide +kernel
theorem dX5_changes_145 : decode cX5_changes 145 = .ok (.getfield 59, 3) := by decide +kernel
theorem dX5_changes_148 : decode cX5_changes 148 = .ok (.iconst 0, 1) := by decide +kernel
theorem dX5_changes_149 : decode cX5_changes 149 = .ok (.iaload, 1) := by decide +kernel
theorem dX5_changes_150 : decode cX5_changes 150 = .ok (.invokevirtual 158, 3) := by decide +kernel
theorem dX5_changes_153 : decode cX5_changes 153 = .ok (.aload_n 0, 1) := by decide +kernel
theorem dX5_changes_154 : decode cX5_changes 154 = .ok (.iload_n 1, 1) := by decide +kernel
theorem dX5_changes_155 : decode cX5_changes 155 = .ok (.iconst 4, 1) := by decide +kernel
theorem dX5_changes_156 : decode cX5_changes 156 = .ok (.aload_n 0, 1) := by decide +kernel
theorem dX5_changes_157 : decode cX5_changes 157 = .ok (.getfield 59, 3) := by decide +kernel
theorem dX5_changes_160 : decode cX5_changes 160 = .ok (.iconst 1, 1) := by decide +kernel
theorem dX5_changes_161 : decode cX5_changes 161 = .ok (.iaload, 1) := by decide +kernel
theorem dX5_changes_162 : decode cX5_changes 162 = .ok (.invokevirtual 158, 3) := by decide +kernel
theorem dX5_changes_165 : decode cX5_changes 165 = .ok (.aload_n 0, 1) := by decide +kernel
theorem dX5_changes_166 : decode cX5_changes 166 = .ok (.iload_n 1, 1) := by decide +kernel
theorem dX5_changes_167 : decode cX5_changes 167 = .ok (.iconst 0, 1) := by decide +kernel
theorem dX5_changes_168 : decode cX5_changes 168 = .ok (.aload_n 0, 1) := by decide +kernel
theorem dX5_changes_169 : decode cX5_changes 169 = .ok (.getfield 28, 3) := by decide +kernel
theorem dX5_changes_172 : decode cX5_changes 172 = .ok (.iload_n 2, 1) := by decide +kernel
theorem dX5_changes_173 : decode cX5_changes 173 = .ok (.iaload, 1) := by decide +kernel
theorem dX5_changes_174 : decode cX5_changes 174 = .ok (.invokevirtual 158, 3) := by decide +kernel
theorem dX5_changes_177 : decode cX5_changes 177 = .ok (.aload_n 0, 1) := by decide +kernel
theorem dX5_changes_178 : decode cX5_changes 178 = .ok (.iload_n 1, 1) := by decide +kernel
theorem dX5_changes_179 : decode cX5_changes 179 = .ok (.iconst 5, 1) := by decide +kernel
theorem dX5_changes_180 : decode cX5_changes 180 = .ok (.aload_n 0, 1) := by decide +kernel
theorem dX5_changes_181 : decode cX5_changes 181 = .ok (.iload_n 1, 1) := by decide +kernel
theorem dX5_changes_182 : decode cX5_changes 182 = .ok (.iconst 5, 1) := by decide +kernel
theorem dX5_changes_183 : decode cX5_changes 183 = .ok (.invokevirtual 74, 3) := by decide +kernel
theorem dX5_changes_186 : decode cX5_changes 186 = .ok (.iconst 1, 1) := by decide +kernel
theorem dX5_changes_187 : decode cX5_changes 187 = .ok (.iadd, 1) := by decide +kernel
theorem dX5_changes_188 : decode cX5_changes 188 = .ok (.invokevirtual 158, 3) := by decide +kernel
theorem dX5_changes_191 : decode cX5_changes 191 = .ok (.aload_n 0, 1) := by decide +kernel
theorem dX5_changes_192 : decode cX5_changes 192 = .ok (.iload_n 1, 1) := by decide +kernel
theorem dX5_changes_193 : decode cX5_changes 193 = .ok (.bipush 6, 2) := by decide +kernel
theorem dX5_changes_195 : decode cX5_changes 195 = .ok (.iconst 0, 1) := by decide +kernel
theorem dX5_changes_196 : decode cX5_changes 196 = .ok (.invokevirtual 158, 3) := by decide +kernel
theorem dX5_changes_199 : decode cX5_changes 199 = .ok (.aload_n 0, 1) := by decide +kernel
theorem dX5_changes_200 : decode cX5_changes 200 = .ok (.iload_n 1, 1) := by decide +kernel
theorem dX5_changes_201 : decode cX5_changes 201 = .ok (.bipush 104, 2) := by decide +kernel
theorem dX5_changes_203 : decode cX5_changes 203 = .ok (.invokevirtual 162, 3) := by decide +kernel
theorem dX5_changes_206 : decode cX5_changes 206 = .ok (.return_, 1) := by decide +kernel
theorem dX5_live_0 : decode cX5_live 0 = .ok (.iconst 0, 1) := by decide +kernel
theorem dX5_live_1 : decode cX5_live 1 = .ok (.istore_n 1, 1) := by decide +kernel
theorem dX5_live_2 : decode cX5_live 2 = .ok (.iconst 0, 1) := by decide +kernel
theorem dX5_live_3 : decode cX5_live 3 = .ok (.istore_n 2, 1) := by decide +kernel
theorem dX5_live_4 : decode cX5_live 4 = .ok (.iload_n 2, 1) := by decide +kernel
theorem dX5_live_5 : decode cX5_live 5 = .ok (.aload_n 0, 1) := by decide +kernel
theorem dX5_live_6 : decode cX5_live 6 = .ok (.getfield 71, 3) := by decide +kernel
theorem dX5_live_9 : decode cX5_live 9 = .ok (.if_icmp .ge 25, 3) := by decide +kernel
theorem dX5_live_12 : decode cX5_live 12 = .ok (.iload_n 1, 1) := by decide +kernel
theorem dX5_live_13 : decode cX5_live 13 = .ok (.aload_n 0, 1) := by decide +kernel
theorem dX5_live_14 : decode cX5_live 14 = .ok (.iload_n 2, 1) := by decide +kernel
theorem dX5_live_15 : decode cX5_live 15 = .ok (.invokevirtual 123, 3) := by decide +kernel
theorem dX5_live_18 : decode cX5_live 18 = .ok (.ifCond .eq 7, 3) := by decide +kernel
theorem dX5_live_21 : decode cX5_live 21 = .ok (.iconst 1, 1) := by decide +kernel
theorem dX5_live_22 : decode cX5_live 22 = .ok (.goto 4, 3) := by decide +kernel
theorem dX5_live_25 : decode cX5_live 25 = .ok (.iconst 0, 1) := by decide +kernel
theorem dX5_live_26 : decode cX5_live 26 = .ok (.iadd, 1) := by decide +kernel
theorem dX5_live_27 : decode cX5_live 27 = .ok (.istore_n 1, 1) := by decide +kernel
theorem dX5_live_28 : decode cX5_live 28 = .ok (.iinc 2 1, 3) := by decide +kernel
theorem dX5_live_31 : decode cX5_live 31 = .ok (.goto (-27), 3) := by decide +kernel
theorem dX5_live_34 : decode cX5_live 34 = .ok (.iload_n 1, 1) := by decide +kernel
theorem dX5_live_35 : decode cX5_live 35 = .ok (.ireturn, 1) := by decide +kernel
theorem dX5_begins_0 : decode cX5_begins 0 = .ok (.aload_n 0, 1) := by decide +kernel
theorem dX5_begins_1 : decode cX5_begins 1 = .ok (.invokevirtual 166, 3) := by decide +kernel
theorem dX5_begins_4 : decode cX5_begins 4 = .ok (.bipush 6, 2) := by decide +kernel
theorem dX5_begins_6 : decode cX5_begins 6 = .ok (.if_icmp .eq 12, 3) := by decide +kernel
theorem dX5_begins_9 : decode cX5_begins 9 = .ok (.aload_n 0, 1) := by decide +kernel
theorem dX5_begins_10 : decode cX5_begins 10 = .ok (.getfield 71, 3) := by decide +kernel
theorem dX5_begins_13 : decode cX5_begins 13 = .ok (.bipush 60, 2) := by decide +kernel
theorem dX5_begins_15 : decode cX5_begins 15 = .ok (.if_icmp .ne 14, 3) := by decide +kernel
theorem dX5_begins_18 : decode cX5_begins 18 = .ok (.aload_n 0, 1) := by decide +kernel
theorem dX5_begins_19 : decode cX5_begins 19 = .ok (.dup, 1) := by decide +kernel
theorem dX5_begins_20 : decode cX5_begins 20 = .ok (.getfield 170, 3) := by decide +kernel
theorem dX5_begins_23 : decode cX5_begins 23 = .ok (.iconst 1, 1) := by decide +kernel
theorem dX5_begins_24 : decode cX5_begins 24 = .ok (.iadd, 1) := by decide +kernel
theorem dX5_begins_25 : decode cX5_begins 25 = .ok (.putfield 170, 3) := by decide +kernel
theorem dX5_begins_28 : decode cX5_begins 28 = .ok (.return_, 1) := by decide +kernel
theorem dX5_begins_29 : decode cX5_begins 29 = .ok (.iconst 0, 1) := by decide +kernel
theorem dX5_begins_30 : decode cX5_begins 30 = .ok (.istore_n 2, 1) := by decide +kernel
theorem dX5_begins_31 : decode cX5_begins 31 = .ok (.iload_n 2, 1) := by decide +kernel
theorem dX5_begins_32 : decode cX5_begins 32 = .ok (.bipush 9, 2) := by decide +kernel
theorem dX5_begins_34 : decode cX5_begins 34 = .ok (.if_icmp .ge 19, 3) := by decide +kernel
theorem dX5_begins_37 : decode cX5_begins 37 = .ok (.aload_n 0, 1) := by decide +kernel
theorem dX5_begins_38 : decode cX5_begins 38 = .ok (.aload_n 0, 1) := by decide +kernel
theorem dX5_begins_39 : decode cX5_begins 39 = .ok (.getfield 71, 3) := by decide +kernel
theorem dX5_begins_42 : decode cX5_begins 42 = .ok (.iload_n 2, 1) := by decide +kernel
theorem dX5_begins_43 : decode cX5_begins 43 = .ok (.iconst 0, 1) := by decide +kernel
theorem dX5_begins_44 : decode cX5_begins 44 = .ok (.invokevirtual 158, 3) := by decide +kernel
theorem dX5_begins_47 : decode cX5_begins 47 = .ok (.iinc 2 1, 3) := by decide +kernel
theorem dX5_begins_50 : decode cX5_begins 50 = .ok (.goto (-19), 3) := by decide +kernel
theorem dX5_begins_53 : decode cX5_begins 53 = .ok (.aload_n 0, 1) := by decide +kernel
theorem dX5_begins_54 : decode cX5_begins 54 = .ok (.aload_n 0, 1) := by decide +kernel
theorem dX5_begins_55 : decode cX5_begins 55 = .ok (.getfield 71, 3) := by decide +kernel
theorem dX5_begins_58 : decode cX5_begins 58 = .ok (.iconst 0, 1) := by decide +kernel
theorem dX5_begins_59 : decode cX5_begins 59 = .ok (.aload_n 0, 1) := by decide +kernel
theorem dX5_begins_60 : decode cX5_begins 60 = .ok (.getfield 28, 3) := by decide +kernel
theorem dX5_begins_63 : decode cX5_begins 63 = .ok (.iload_n 1, 1) := by decide +kernel
theorem dX5_begins_64 : decode cX5_begins 64 = .ok (.iaload, 1) := by decide +kernel
theorem dX5_begins_65 : decode cX5_begins 65 = .ok (.invokevirtual 158, 3) := by decide +kernel
theorem dX5_begins_68 : decode cX5_begins 68 = .ok (.aload_n 0, 1) := by decide +kernel
theorem dX5_begins_69 : decode cX5_begins 69 = .ok (.aload_n 0, 1) := by decide +kernel
theorem dX5_begins_70 : decode cX5_begins 70 = .ok (.getfield 71, 3) := by decide +kernel
theorem dX5_begins_73 : decode cX5_begins 73 = .ok (.iconst 1, 1) := by decide +kernel
theorem dX5_begins_74 : decode cX5_begins 74 = .ok (.bipush 16, 2) := by decide +kernel
theorem dX5_begins_76 : decode cX5_begins 76 = .ok (.aload_n 0, 1) := by decide +kernel
theorem dX5_begins_77 : decode cX5_begins 77 = .ok (.getfield 31, 3) := by decide +kernel
theorem dX5_begins_80 : decode cX5_begins 80 = .ok (.iload_n 1, 1) := by decide +kernel
theorem dX5_begins_81 : decode cX5_begins 81 = .ok (.iaload, 1) := by decide +kernel
theorem dX5_begins_82 : decode cX5_begins 82 = .ok (.imul, 1) := by decide +kernel
theorem dX5_begins_83 : decode cX5_begins 83 = .ok (.invokevirtual 158, 3) := by decide +kernel
theorem dX5_begins_86 : decode cX5_begins 86 = .ok (.aload_n 0, 1) := by decide +kernel
theorem dX5_begins_87 : decode cX5_begins 87 = .ok (.aload_n 0, 1) := by decide +kernel
theorem dX5_begins_88 : decode cX5_begins 88 = .ok (.getfield 71, 3) := by decide +kernel
theorem dX5_begins_91 : decode cX5_begins 91 = .ok (.iconst 2, 1) := by decide +kernel
theorem dX5_begins_92 : decode cX5_begins 92 = .ok (.bipush 16, 2) := by decide +kernel
theorem dX5_begins_94 : decode cX5_begins 94 = .ok (.aload_n 0, 1) := by decide +kernel
theorem dX5_begins_95 : decode cX5_begins 95 = .ok (.getfield 34, 3) := by decide +kernel
theorem dX5_begins_98 : decode cX5_begins 98 = .ok (.iload_n 1, 1) := by decide +kernel
theorem dX5_begins_99 : decode cX5_begins 99 = .ok (.iaload, 1) := by decide +kernel
theorem dX5_begins_100 : decode cX5_begins 100 = .ok (.imul, 1) := by decide +kernel
theorem dX5_begins_101 : decode cX5_begins 101 = .ok (.invokevirtual 158, 3) := by decide +kernel
theorem dX5_begins_104 : decode cX5_begins 104 = .ok (.aload_n 0, 1) := by decide +kernel
theorem dX5_begins_105 : decode cX5_begins 105 = .ok (.aload_n 0, 1) := by decide +kernel
theorem dX5_begins_106 : decode cX5_begins 106 = .ok (.getfield 71, 3) := by decide +kernel
theorem dX5_begins_109 : decode cX5_begins 109 = .ok (.iconst 5, 1) := by decide +kernel
theorem dX5_begins_110 : decode cX5_begins 110 = .ok (.iconst 1, 1) := by decide +kernel
theorem dX5_begins_111 : decode cX5_begins 111 = .ok (.invokevirtual 158, 3) := by decide +kernel
theorem dX5_begins_114 : decode cX5_begins 114 = .ok (.aload_n 0, 1) := by decide +kernel
theorem dX5_begins_115 : decode cX5_begins 115 = .ok (.getfield 21, 3) := by decide +kernel
theorem dX5_begins_118 : decode cX5_begins 118 = .ok (.aload_n 0, 1) := by decide +kernel
theorem dX5_begins_119 : decode cX5_begins 119 = .ok (.getfield 71, 3) := by decide +kernel
theorem dX5_begins_122 : decode cX5_begins 122 = .ok (.bipush 8, 2) := by decide +kernel
theorem dX5_begins_124 : decode cX5_begins 124 = .ok (.newarray .char, 2) := by decide +kernel
theorem dX5_begins_126 : decode cX5_begins 126 = .ok (.aastore, 1) := by decide +kernel
theorem dX5_begins_127 : decode cX5_begins 127 = .ok (.aload_n 0, 1) := by decide +kernel
theorem dX5_begins_128 : decode cX5_begins 128 = .ok (.getfield 25, 3) := by decide +kernel
theorem dX5_begins_131 : decode cX5_begins 131 = .ok (.aload_n 0, 1) := by decide +kernel
theorem dX5_begins_132 : decode cX5_begins 132 = .ok (.getfield 71, 3) := by decide +kernel
theorem dX5_begins_135 : decode cX5_begins 135 = .ok (.iconst 0, 1) := by decide +kernel
theorem dX5_begins_136 : decode cX5_begins 136 = .ok (.iastore, 1) := by decide +kernel
theorem dX5_begins_137 : decode cX5_begins 137 = .ok (.aload_n 0, 1) := by decide +kernel
theorem dX5_begins_138 : decode cX5_begins 138 = .ok (.dup, 1) := by decide +kernel
theorem dX5_begins_139 : decode cX5_begins 139 = .ok (.getfield 71, 3) := by decide +kernel
theorem dX5_begins_142 : decode cX5_begins 142 = .ok (.iconst 1, 1) := by decide +kernel
theorem dX5_begins_143 : decode cX5_begins 143 = .ok (.iadd, 1) := by decide +kernel
theorem dX5_begins_144 : decode cX5_begins 144 = .ok (.putfield 71, 3) := by decide +kernel
theorem dX5_begins_147 : decode cX5_begins 147 = .ok (.aload_n 0, 1) := by decide +kernel
theorem dX5_begins_148 : decode cX5_begins 148 = .ok (.aload_n 0, 1) := by decide +kernel
theorem dX5_begins_149 : decode cX5_begins 149 = .ok (.getfield 71, 3) := by decide +kernel
theorem dX5_begins_152 : decode cX5_begins 152 = .ok (.iconst 1, 1) := by decide +kernel
theorem dX5_begins_153 : decode cX5_begins 153 = .ok (.isub, 1) := by decide +kernel
theorem dX5_begins_154 : decode cX5_begins 154 = .ok (.bipush 110, 2) := by decide +kernel
theorem dX5_begins_156 : decode cX5_begins 156 = .ok (.invokevirtual 162, 3) := by decide +kernel
theorem dX5_begins_159 : decode cX5_begins 159 = .ok (.return_, 1) := by decide +kernel
theorem dX5_areNear_0 : decode cX5_areNear 0 = .ok (.aload_n 0, 1) := by decide +kernel
theorem dX5_areNear_1 : decode cX5_areNear 1 = .ok (.iload_n 1, 1) := by decide +kernel
theorem dX5_areNear_2 : decode cX5_areNear 2 = .ok (.iconst 0, 1) := by decide +kernel
theorem dX5_areNear_3 : decode cX5_areNear 3 = .ok (.invokevirtual 74, 3) := by decide +kernel
theorem dX5_areNear_6 : decode cX5_areNear 6 = .ok (.aload_n 0, 1) := by decide +kernel
theorem dX5_areNear_7 : decode cX5_areNear 7 = .ok (.iload_n 2, 1) := by decide +kernel
theorem dX5_areNear_8 : decode cX5_areNear 8 = .ok (.iconst 0, 1) := by decide +kernel
theorem dX5_areNear_9 : decode cX5_areNear 9 = .ok (.invokevirtual 74, 3) := by decide +kernel
theorem dX5_areNear_12 : decode cX5_areNear 12 = .ok (.invokestatic 173, 3) := by decide +kernel
theorem dX5_areNear_15 : decode cX5_areNear 15 = .ok (.istore_n 3, 1) := by decide +kernel
theorem dX5_areNear_16 : decode cX5_areNear 16 = .ok (.aload_n 0, 1) := by decide +kernel
theorem dX5_areNear_17 : decode cX5_areNear 17 = .ok (.iload_n 1, 1) := by decide +kernel
theorem dX5_areNear_18 : decode cX5_areNear 18 = .ok (.iload_n 3, 1) := by decide +kernel
theorem dX5_areNear_19 : decode cX5_areNear 19 = .ok (.iconst 0, 1) := by decide +kernel
theorem dX5_areNear_20 : decode cX5_areNear 20 = .ok (.invokevirtual 114, 3) := by decide +kernel
theorem dX5_areNear_23 : decode cX5_areNear 23 = .ok (.aload_n 0, 1) := by decide +kernel
theorem dX5_areNear_24 : decode cX5_areNear 24 = .ok (.iload_n 2, 1) := by decide +kernel
theorem dX5_areNear_25 : decode cX5_areNear 25 = .ok (.iload_n 3, 1) := by decide +kernel
theorem dX5_areNear_26 : decode cX5_areNear 26 = .ok (.iconst 0, 1) := by decide +kernel
theorem dX5_areNear_27 : decode cX5_areNear 27 = .ok (.invokevirtual 114, 3) := by decide +kernel
theorem dX5_areNear_30 : decode cX5_areNear 30 = .ok (.lsub, 1) := by decide +kernel
theorem dX5_areNear_31 : decode cX5_areNear 31 = .ok (.lstore 4, 2) := by decide +kernel
theorem dX5_areNear_33 : decode cX5_areNear 33 = .ok (.aload_n 0, 1) := by decide +kernel
theorem dX5_areNear_34 : decode cX5_areNear 34 = .ok (.iload_n 1, 1) := by decide +kernel
theorem dX5_areNear_35 : decode cX5_areNear 35 = .ok (.iload_n 3, 1) := by decide +kernel
theorem dX5_areNear_36 : decode cX5_areNear 36 = .ok (.iconst 1, 1) := by decide +kernel
theorem dX5_areNear_37 : decode cX5_areNear 37 = .ok (.invokevirtual 114, 3) := by decide +kernel
theorem dX5_areNear_40 : decode cX5_areNear 40 = .ok (.aload_n 0, 1) := by decide +kernel
theorem dX5_areNear_41 : decode cX5_areNear 41 = .ok (.iload_n 2, 1) := by decide +kernel
theorem dX5_areNear_42 : decode cX5_areNear 42 = .ok (.iload_n 3, 1) := by decide +kernel
theorem dX5_areNear_43 : decode cX5_areNear 43 = .ok (.iconst 1, 1) := by decide +kernel
theorem dX5_areNear_44 : decode cX5_areNear 44 = .ok (.invokevirtual 114, 3) := by decide +kernel
theorem dX5_areNear_47 : decode cX5_areNear 47 = .ok (.lsub, 1) := by decide +kernel
theorem dX5_areNear_48 : decode cX5_areNear 48 = .ok (.lstore 6, 2) := by decide +kernel
theorem dX5_areNear_50 : decode cX5_areNear 50 = .ok (.aload_n 0, 1) := by decide +kernel
theorem dX5_areNear_51 : decode cX5_areNear 51 = .ok (.iload_n 1, 1) := by decide +kernel
theorem dX5_areNear_52 : decode cX5_areNear 52 = .ok (.iconst 3, 1) := by decide +kernel
theorem dX5_areNear_53 : decode cX5_areNear 53 = .ok (.invokevirtual 74, 3) := by decide +kernel
theorem dX5_areNear_56 : decode cX5_areNear 56 = .ok (.aload_n 0, 1) := by decide +kernel
theorem dX5_areNear_57 : decode cX5_areNear 57 = .ok (.iload_n 2, 1) := by decide +kernel
theorem dX5_areNear_58 : decode cX5_areNear 58 = .ok (.iconst 3, 1) := by decide +kernel
theorem dX5_areNear_59 : decode cX5_areNear 59 = .ok (.invokevirtual 74, 3) := by decide +kernel
theorem dX5_areNear_62 : decode cX5_areNear 62 = .ok (.isub, 1) := by decide +kernel
theorem dX5_areNear_63 : decode cX5_areNear 63 = .ok (.invokestatic 175, 3) := by decide +kernel
theorem dX5_areNear_66 : decode cX5_areNear 66 = .ok (.aload_n 0, 1) := by decide +kernel
theorem dX5_areNear_67 : decode cX5_areNear 67 = .ok (.iload_n 1, 1) := by decide +kernel
theorem dX5_areNear_68 : decode cX5_areNear 68 = .ok (.iconst 4, 1) := by decide +kernel
theorem dX5_areNear_69 : decode cX5_areNear 69 = .ok (.invokevirtual 74, 3) := by decide +kernel
theorem dX5_areNear_72 : decode cX5_areNear 72 = .ok (.aload_n 0, 1) := by decide +kernel
theorem dX5_areNear_73 : decode cX5_areNear 73 = .ok (.iload_n 2, 1) := by decide +kernel
theorem dX5_areNear_74 : decode cX5_areNear 74 = .ok (.iconst 4, 1) := by decide +kernel
theorem dX5_areNear_75 : decode cX5_areNear 75 = .ok (.invokevirtual 74, 3) := by decide +kernel
theorem dX5_areNear_78 : decode cX5_areNear 78 = .ok (.isub, 1) := by decide +kernel
theorem dX5_areNear_79 : decode cX5_areNear 79 = .ok (.invokestatic 175, 3) := by decide +kernel
theorem dX5_areNear_82 : decode cX5_areNear 82 = .ok (.iadd, 1) := by decide +kernel
theorem dX5_areNear_83 : decode cX5_areNear 83 = .ok (.istore 8, 2) := by decide +kernel
theorem dX5_areNear_85 : decode cX5_areNear 85 = .ok (.lload 4, 2) := by decide +kernel
theorem dX5_areNear_87 : decode cX5_areNear 87 = .ok (.lload 4, 2) := by decide +kernel
theorem dX5_areNear_89 : decode cX5_areNear 89 = .ok (.lmul, 1) := by decide +kernel
theorem dX5_areNear_90 : decode cX5_areNear 90 = .ok (.lload 6, 2) := by decide +kernel
theorem dX5_areNear_92 : decode cX5_areNear 92 = .ok (.lload 6, 2) := by decide +kernel
theorem dX5_areNear_94 : decode cX5_areNear 94 = .ok (.lmul, 1) := by decide +kernel
theorem dX5_areNear_95 : decode cX5_areNear 95 = .ok (.ladd, 1) := by decide +kernel
theorem dX5_areNear_96 : decode cX5_areNear 96 = .ok (.ldc2_w 121, 3) := by decide +kernel
theorem dX5_areNear_99 : decode cX5_areNear 99 = .ok (.aload_n 0, 1) := by decide +kernel
theorem dX5_areNear_100 : decode cX5_areNear 100 = .ok (.getfield 50, 3) := by decide +kernel
theorem dX5_areNear_103 : decode cX5_areNear 103 = .ok (.i2l, 1) := by decide +kernel
theorem dX5_areNear_104 : decode cX5_areNear 104 = .ok (.lmul, 1) := by decide +kernel
theorem dX5_areNear_105 : decode cX5_areNear 105 = .ok (.aload_n 0, 1) := by decide +kernel
theorem dX5_areNear_106 : decode cX5_areNear 106 = .ok (.getfield 50, 3) := by decide +kernel
theorem dX5_areNear_109 : decode cX5_areNear 109 = .ok (.i2l, 1) := by decide +kernel
theorem dX5_areNear_110 : decode cX5_areNear 110 = .ok (.lmul, 1) := by decide +kernel
theorem dX5_areNear_111 : decode cX5_areNear 111 = .ok (.lcmp, 1) := by decide +kernel
theorem dX5_areNear_112 : decode cX5_areNear 112 = .ok (.ifCond .gt 14, 3) := by decide +kernel
theorem dX5_areNear_115 : decode cX5_areNear 115 = .ok (.iload 8, 2) := by decide +kernel
theorem dX5_areNear_117 : decode cX5_areNear 117 = .ok (.bipush 16, 2) := by decide +kernel
theorem dX5_areNear_119 : decode cX5_areNear 119 = .ok (.if_icmp .gt 7, 3) := by decide +kernel
theorem dX5_areNear_122 : decode cX5_areNear 122 = .ok (.iconst 1, 1) := by decide +kernel
theorem dX5_areNear_123 : decode cX5_areNear 123 = .ok (.goto 4, 3) := by decide +kernel
theorem dX5_areNear_126 : decode cX5_areNear 126 = .ok (.iconst 0, 1) := by decide +kernel
theorem dX5_areNear_127 : decode cX5_areNear 127 = .ok (.ireturn, 1) := by decide +kernel
theorem dX5_goesThere_0 : decode cX5_goesThere 0 = .ok (.iconst 0, 1) := by decide +kernel
theorem dX5_goesThere_1 : decode cX5_goesThere 1 = .ok (.istore_n 2, 1) := by decide +kernel
theorem dX5_goesThere_2 : decode cX5_goesThere 2 = .ok (.iconst 0, 1) := by decide +kernel
theorem dX5_goesThere_3 : decode cX5_goesThere 3 = .ok (.istore_n 3, 1) := by decide +kernel
theorem dX5_goesThere_4 : decode cX5_goesThere 4 = .ok (.iload_n 3, 1) := by decide +kernel
theorem dX5_goesThere_5 : decode cX5_goesThere 5 = .ok (.aload_n 0, 1) := by decide +kernel
theorem dX5_goesThere_6 : decode cX5_goesThere 6 = .ok (.getfield 111, 3) := by decide +kernel
theorem dX5_goesThere_9 : decode cX5_goesThere 9 = .ok (.if_icmp .ge 29, 3) := by decide +kernel
theorem dX5_goesThere_12 : decode cX5_goesThere 12 = .ok (.iload_n 2, 1) := by decide +kernel
theorem dX5_goesThere_13 : decode cX5_goesThere 13 = .ok (.ifCond .ne 13, 3) := by decide +kernel
theorem dX5_goesThere_16 : decode cX5_goesThere 16 = .ok (.aload_n 0, 1) := by decide +kernel
theorem dX5_goesThere_17 : decode cX5_goesThere 17 = .ok (.getfield 56, 3) := by decide +kernel
theorem dX5_goesThere_20 : decode cX5_goesThere 20 = .ok (.iload_n 3, 1) := by decide +kernel
theorem dX5_goesThere_21 : decode cX5_goesThere 21 = .ok (.iaload, 1) := by decide +kernel
theorem dX5_goesThere_22 : decode cX5_goesThere 22 = .ok (.iload_n 1, 1) := by decide +kernel
theorem dX5_goesThere_23 : decode cX5_goesThere 23 = .ok (.if_icmp .ne 7, 3) := by decide +kernel
theorem dX5_goesThere_26 : decode cX5_goesThere 26 = .ok (.iconst 1, 1) := by decide +kernel
theorem dX5_goesThere_27 : decode cX5_goesThere 27 = .ok (.goto 4, 3) := by decide +kernel
theorem dX5_goesThere_30 : decode cX5_goesThere 30 = .ok (.iconst 0, 1) := by decide +kernel
theorem dX5_goesThere_31 : decode cX5_goesThere 31 = .ok (.istore_n 2, 1) := by decide +kernel
theorem dX5_goesThere_32 : decode cX5_goesThere 32 = .ok (.iinc 3 1, 3) := by decide +kernel
theorem dX5_goesThere_35 : decode cX5_goesThere 35 = .ok (.goto (-31), 3) := by decide +kernel
theorem dX5_goesThere_38 : decode cX5_goesThere 38 = .ok (.iload_n 2, 1) := by decide +kernel
theorem dX5_goesThere_39 : decode cX5_goesThere 39 = .ok (.ireturn, 1) := by decide +kernel
theorem dX5_process_0 : decode cX5_process 0 = .ok (.aload_n 0, 1) := by decide +kernel
theorem dX5_process_1 : decode cX5_process 1 = .ok (.aload_n 0, 1) := by decide +kernel
theorem dX5_process_2 : decode cX5_process 2 = .ok (.getfield 111, 3) := by decide +kernel
theorem dX5_process_5 : decode cX5_process 5 = .ok (.ifCond .ne 7, 3) := by decide +kernel
theorem dX5_process_8 : decode cX5_process 8 = .ok (.iconst 1, 1) := by decide +kernel
theorem dX5_process_9 : decode cX5_process 9 = .ok (.goto 4, 3) := by decide +kernel
theorem dX5_process_12 : decode cX5_process 12 = .ok (.iconst 0, 1) := by decide +kernel
theorem dX5_process_13 : decode cX5_process 13 = .ok (.putfield 62, 3) := by decide +kernel
theorem dX5_process_16 : decode cX5_process 16 = .ok (.aload_n 0, 1) := by decide +kernel
theorem dX5_process_17 : decode cX5_process 17 = .ok (.getfield 62, 3) := by decide +kernel
theorem dX5_process_20 : decode cX5_process 20 = .ok (.ifCond .le 5, 3) := by decide +kernel
theorem dX5_process_23 : decode cX5_process 23 = .ok (.iconst (-1), 1) := by decide +kernel
theorem dX5_process_24 : decode cX5_process 24 = .ok (.ireturn, 1) := by decide +kernel
theorem dX5_process_25 : decode cX5_process 25 = .ok (.aload_n 0, 1) := by decide +kernel
theorem dX5_process_26 : decode cX5_process 26 = .ok (.invokevirtual 179, 3) := by decide +kernel
theorem dX5_process_29 : decode cX5_process 29 = .ok (.iconst 0, 1) := by decide +kernel
theorem dX5_process_30 : decode cX5_process 30 = .ok (.istore_n 1, 1) := by decide +kernel
theorem dX5_process_31 : decode cX5_process 31 = .ok (.aload_n 0, 1) := by decide +kernel
theorem dX5_process_32 : decode cX5_process 32 = .ok (.getfield 71, 3) := by decide +kernel
theorem dX5_process_35 : decode cX5_process 35 = .ok (.istore_n 2, 1) := by decide +kernel
theorem dX5_process_36 : decode cX5_process 36 = .ok (.iconst 0, 1) := by decide +kernel
theorem dX5_process_37 : decode cX5_process 37 = .ok (.istore_n 3, 1) := by decide +kernel
theorem dX5_process_38 : decode cX5_process 38 = .ok (.iload_n 3, 1) := by decide +kernel
theorem dX5_process_39 : decode cX5_process 39 = .ok (.aload_n 0, 1) := by decide +kernel
theorem dX5_process_40 : decode cX5_process 40 = .ok (.getfield 111, 3) := by decide +kernel
theorem dX5_process_43 : decode cX5_process 43 = .ok (.if_icmp .ge 33, 3) := by decide +kernel
theorem dX5_process_46 : decode cX5_process 46 = .ok (.aload_n 0, 1) := by decide +kernel
theorem dX5_process_47 : decode cX5_process 47 = .ok (.getfield 56, 3) := by decide +kernel
theorem dX5_process_50 : decode cX5_process 50 = .ok (.iload_n 3, 1) := by decide +kernel
theorem dX5_process_51 : decode cX5_process 51 = .ok (.iaload, 1) := by decide +kernel
theorem dX5_process_52 : decode cX5_process 52 = .ok (.iconst (-1), 1) := by decide +kernel
theorem dX5_process_53 : decode cX5_process 53 = .ok (.if_icmp .eq 17, 3) := by decide +kernel
theorem dX5_process_56 : decode cX5_process 56 = .ok (.aload_n 0, 1) := by decide +kernel
theorem dX5_process_57 : decode cX5_process 57 = .ok (.aload_n 0, 1) := by decide +kernel
theorem dX5_process_58 : decode cX5_process 58 = .ok (.getfield 56, 3) := by decide +kernel
theorem dX5_process_61 : decode cX5_process 61 = .ok (.iload_n 3, 1) := by decide +kernel
theorem dX5_process_62 : decode cX5_process 62 = .ok (.iaload, 1) := by decide +kernel
theorem dX5_process_63 : decode cX5_process 63 = .ok (.iload_n 3, 1) := by decide +kernel
theorem dX5_process_64 : decode cX5_process 64 = .ok (.invokevirtual 182, 3) := by decide +kernel
theorem dX5_process_67 : decode cX5_process 67 = .ok (.iinc 1 1, 3) := by decide +kernel
theorem dX5_process_70 : decode cX5_process 70 = .ok (.iinc 3 1, 3) := by decide +kernel
theorem dX5_process_73 : decode cX5_process 73 = .ok (.goto (-35), 3) := by decide +kernel
theorem dX5_process_76 : decode cX5_process 76 = .ok (.iconst 0, 1) := by decide +kernel
theorem dX5_process_77 : decode cX5_process 77 = .ok (.istore_n 3, 1) := by decide +kernel
theorem dX5_process_78 : decode cX5_process 78 = .ok (.iload_n 3, 1) := by decide +kernel
theorem dX5_process_79 : decode cX5_process 79 = .ok (.iload_n 2, 1) := by decide +kernel
theorem dX5_process_80 : decode cX5_process 80 = .ok (.if_icmp .ge 77, 3) := by decide +kernel
theorem dX5_process_83 : decode cX5_process 83 = .ok (.aload_n 0, 1) := by decide +kernel
theorem dX5_process_84 : decode cX5_process 84 = .ok (.iload_n 3, 1) := by decide +kernel
theorem dX5_process_85 : decode cX5_process 85 = .ok (.invokevirtual 123, 3) := by decide +kernel
theorem dX5_process_88 : decode cX5_process 88 = .ok (.ifCond .eq 63, 3) := by decide +kernel
theorem dX5_process_91 : decode cX5_process 91 = .ok (.aload_n 0, 1) := by decide +kernel
theorem dX5_process_92 : decode cX5_process 92 = .ok (.iload_n 3, 1) := by decide +kernel
theorem dX5_process_93 : decode cX5_process 93 = .ok (.invokevirtual 186, 3) := by decide +kernel
theorem dX5_process_96 : decode cX5_process 96 = .ok (.ifCond .ne 55, 3) := by decide +kernel
theorem dX5_process_99 : decode cX5_process 99 = .ok (.aload_n 0, 1) := by decide +kernel
theorem dX5_process_100 : decode cX5_process 100 = .ok (.iload_n 3, 1) := by decide +kernel
theorem dX5_process_101 : decode cX5_process 101 = .ok (.bipush 6, 2) := by decide +kernel
theorem dX5_process_103 : decode cX5_process 103 = .ok (.aload_n 0, 1) := by decide +kernel
theorem dX5_process_104 : decode cX5_process 104 = .ok (.iload_n 3, 1) := by decide +kernel
theorem dX5_process_105 : decode cX5_process 105 = .ok (.bipush 6, 2) := by decide +kernel
theorem dX5_process_107 : decode cX5_process 107 = .ok (.invokevirtual 74, 3) := by decide +kernel
theorem dX5_process_110 : decode cX5_process 110 = .ok (.iconst 1, 1) := by decide +kernel
theorem dX5_process_111 : decode cX5_process 111 = .ok (.iadd, 1) := by decide +kernel
theorem dX5_process_112 : decode cX5_process 112 = .ok (.invokevirtual 158, 3) := by decide +kernel
theorem dX5_process_115 : decode cX5_process 115 = .ok (.aload_n 0, 1) := by decide +kernel
theorem dX5_process_116 : decode cX5_process 116 = .ok (.iload_n 3, 1) := by decide +kernel
theorem dX5_process_117 : decode cX5_process 117 = .ok (.bipush 120, 2) := by decide +kernel
theorem dX5_process_119 : decode cX5_process 119 = .ok (.invokevirtual 162, 3) := by decide +kernel
theorem dX5_process_122 : decode cX5_process 122 = .ok (.aload_n 0, 1) := by decide +kernel
theorem dX5_process_123 : decode cX5_process 123 = .ok (.iload_n 3, 1) := by decide +kernel
theorem dX5_process_124 : decode cX5_process 124 = .ok (.bipush 6, 2) := by decide +kernel
theorem dX5_process_126 : decode cX5_process 126 = .ok (.invokevirtual 74, 3) := by decide +kernel
theorem dX5_process_129 : decode cX5_process 129 = .ok (.aload_n 0, 1) := by decide +kernel
theorem dX5_process_130 : decode cX5_process 130 = .ok (.getfield 47, 3) := by decide +kernel
theorem dX5_process_133 : decode cX5_process 133 = .ok (.if_icmp .lt 18, 3) := by decide +kernel
theorem dX5_process_136 : decode cX5_process 136 = .ok (.aload_n 0, 1) := by decide +kernel
theorem dX5_process_137 : decode cX5_process 137 = .ok (.iload_n 3, 1) := by decide +kernel
theorem dX5_process_138 : decode cX5_process 138 = .ok (.bipush 7, 2) := by decide +kernel
theorem dX5_process_140 : decode cX5_process 140 = .ok (.iconst 1, 1) := by decide +kernel
theorem dX5_process_141 : decode cX5_process 141 = .ok (.invokevirtual 158, 3) := by decide +kernel
theorem dX5_process_144 : decode cX5_process 144 = .ok (.aload_n 0, 1) := by decide +kernel
theorem dX5_process_145 : decode cX5_process 145 = .ok (.iload_n 3, 1) := by decide +kernel
theorem dX5_process_146 : decode cX5_process 146 = .ok (.bipush 108, 2) := by decide +kernel
theorem dX5_process_148 : decode cX5_process 148 = .ok (.invokevirtual 162, 3) := by decide +kernel
theorem dX5_process_151 : decode cX5_process 151 = .ok (.iinc 3 1, 3) := by decide +kernel
theorem dX5_process_154 : decode cX5_process 154 = .ok (.goto (-76), 3) := by decide +kernel
theorem dX5_process_157 : decode cX5_process 157 = .ok (.iconst 0, 1) := by decide +kernel
theorem dX5_process_158 : decode cX5_process 158 = .ok (.istore_n 3, 1) := by decide +kernel
theorem dX5_process_159 : decode cX5_process 159 = .ok (.iload_n 3, 1) := by decide +kernel
theorem dX5_process_160 : decode cX5_process 160 = .ok (.aload_n 0, 1) := by decide +kernel
theorem dX5_process_161 : decode cX5_process 161 = .ok (.getfield 111, 3) := by decide +kernel
theorem dX5_process_164 : decode cX5_process 164 = .ok (.if_icmp .ge 24, 3) := by decide +kernel
theorem dX5_process_167 : decode cX5_process 167 = .ok (.aload_n 0, 1) := by decide +kernel
theorem dX5_process_168 : decode cX5_process 168 = .ok (.getfield 56, 3) := by decide +kernel
theorem dX5_process_171 : decode cX5_process 171 = .ok (.iload_n 3, 1) := by decide +kernel
theorem dX5_process_172 : decode cX5_process 172 = .ok (.iaload, 1) := by decide +kernel
theorem dX5_process_173 : decode cX5_process 173 = .ok (.iconst (-1), 1) := by decide +kernel
theorem dX5_process_174 : decode cX5_process 174 = .ok (.if_icmp .ne 8, 3) := by decide +kernel
theorem dX5_process_177 : decode cX5_process 177 = .ok (.aload_n 0, 1) := by decide +kernel
theorem dX5_process_178 : decode cX5_process 178 = .ok (.iload_n 3, 1) := by decide +kernel
theorem dX5_process_179 : decode cX5_process 179 = .ok (.invokevirtual 189, 3) := by decide +kernel
theorem dX5_process_182 : decode cX5_process 182 = .ok (.iinc 3 1, 3) := by decide +kernel
theorem dX5_process_185 : decode cX5_process 185 = .ok (.goto (-26), 3) := by decide +kernel
theorem dX5_process_188 : decode cX5_process 188 = .ok (.iconst 0, 1) := by decide +kernel
theorem dX5_process_189 : decode cX5_process 189 = .ok (.istore_n 3, 1) := by decide +kernel
theorem dX5_process_190 : decode cX5_process 190 = .ok (.iload_n 3, 1) := by decide +kernel
theorem dX5_process_191 : decode cX5_process 191 = .ok (.aload_n 0, 1) := by decide +kernel
theorem dX5_process_192 : decode cX5_process 192 = .ok (.getfield 71, 3) := by decide +kernel
theorem dX5_process_195 : decode cX5_process 195 = .ok (.if_icmp .ge 109, 3) := by decide +kernel
theorem dX5_process_198 : decode cX5_process 198 = .ok (.iload_n 3, 1) := by decide +kernel
theorem dX5_process_199 : decode cX5_process 199 = .ok (.iconst 1, 1) := by decide +kernel
theorem dX5_process_200 : decode cX5_process 200 = .ok (.iadd, 1) := by decide +kernel
theorem dX5_process_201 : decode cX5_process 201 = .ok (.istore 4, 2) := by decide +kernel
theorem dX5_process_203 : decode cX5_process 203 = .ok (.iload 4, 2) := by decide +kernel
theorem dX5_process_205 : decode cX5_process 205 = .ok (.aload_n 0, 1) := by decide +kernel
theorem dX5_process_206 : decode cX5_process 206 = .ok (.getfield 71, 3) := by decide +kernel
theorem dX5_process_209 : decode cX5_process 209 = .ok (.if_icmp .ge 89, 3) := by decide +kernel
theorem dX5_process_212 : decode cX5_process 212 = .ok (.aload_n 0, 1) := by decide +kernel
theorem dX5_process_213 : decode cX5_process 213 = .ok (.iload_n 3, 1) := by decide +kernel
theorem dX5_process_214 : decode cX5_process 214 = .ok (.invokevirtual 123, 3) := by decide +kernel
theorem dX5_process_217 : decode cX5_process 217 = .ok (.ifCond .eq 75, 3) := by decide +kernel
theorem dX5_process_220 : decode cX5_process 220 = .ok (.aload_n 0, 1) := by decide +kernel
theorem dX5_process_221 : decode cX5_process 221 = .ok (.iload 4, 2) := by decide +kernel
theorem dX5_process_223 : decode cX5_process 223 = .ok (.invokevirtual 123, 3) := by decide +kernel
theorem dX5_process_226 : decode cX5_process 226 = .ok (.ifCond .eq 66, 3) := by decide +kernel
theorem dX5_process_229 : decode cX5_process 229 = .ok (.aload_n 0, 1) := by decide +kernel
theorem dX5_process_230 : decode cX5_process 230 = .ok (.iload_n 3, 1) := by decide +kernel
theorem dX5_process_231 : decode cX5_process 231 = .ok (.iload 4, 2) := by decide +kernel
theorem dX5_process_233 : decode cX5_process 233 = .ok (.invokevirtual 193, 3) := by decide +kernel
theorem dX5_process_236 : decode cX5_process 236 = .ok (.ifCond .eq 56, 3) := by decide +kernel
theorem dX5_process_239 : decode cX5_process 239 = .ok (.aload_n 0, 1) := by decide +kernel
theorem dX5_process_240 : decode cX5_process 240 = .ok (.iload_n 3, 1) := by decide +kernel
theorem dX5_process_241 : decode cX5_process 241 = .ok (.iconst 5, 1) := by decide +kernel
theorem dX5_process_242 : decode cX5_process 242 = .ok (.aload_n 0, 1) := by decide +kernel
theorem dX5_process_243 : decode cX5_process 243 = .ok (.iload_n 3, 1) := by decide +kernel
theorem dX5_process_244 : decode cX5_process 244 = .ok (.iconst 5, 1) := by decide +kernel
theorem dX5_process_245 : decode cX5_process 245 = .ok (.invokevirtual 74, 3) := by decide +kernel
theorem dX5_process_248 : decode cX5_process 248 = .ok (.aload_n 0, 1) := by decide +kernel
theorem dX5_process_249 : decode cX5_process 249 = .ok (.iload 4, 2) := by decide +kernel
theorem dX5_process_251 : decode cX5_process 251 = .ok (.iconst 5, 1) := by decide +kernel
theorem dX5_process_252 : decode cX5_process 252 = .ok (.invokevirtual 74, 3) := by decide +kernel
theorem dX5_process_255 : decode cX5_process 255 = .ok (.iadd, 1) := by decide +kernel
theorem dX5_process_256 : decode cX5_process 256 = .ok (.invokevirtual 158, 3) := by decide +kernel
theorem dX5_process_259 : decode cX5_process 259 = .ok (.aload_n 0, 1) := by decide +kernel
theorem dX5_process_260 : decode cX5_process 260 = .ok (.iload 4, 2) := by decide +kernel
theorem dX5_process_262 : decode cX5_process 262 = .ok (.bipush 7, 2) := by decide +kernel
theorem dX5_process_264 : decode cX5_process 264 = .ok (.iconst 2, 1) := by decide +kernel
theorem dX5_process_265 : decode cX5_process 265 = .ok (.invokevirtual 158, 3) := by decide +kernel
theorem dX5_process_268 : decode cX5_process 268 = .ok (.aload_n 0, 1) := by decide +kernel
theorem dX5_process_269 : decode cX5_process 269 = .ok (.iload 4, 2) := by decide +kernel
theorem dX5_process_271 : decode cX5_process 271 = .ok (.bipush 8, 2) := by decide +kernel
theorem dX5_process_273 : decode cX5_process 273 = .ok (.iload_n 3, 1) := by decide +kernel
theorem dX5_process_274 : decode cX5_process 274 = .ok (.invokevirtual 158, 3) := by decide +kernel
theorem dX5_process_277 : decode cX5_process 277 = .ok (.aload_n 0, 1) := by decide +kernel
theorem dX5_process_278 : decode cX5_process 278 = .ok (.iload 4, 2) := by decide +kernel
theorem dX5_process_280 : decode cX5_process 280 = .ok (.bipush 109, 2) := by decide +kernel
theorem dX5_process_282 : decode cX5_process 282 = .ok (.invokevirtual 162, 3) := by decide +kernel
theorem dX5_process_285 : decode cX5_process 285 = .ok (.aload_n 0, 1) := by decide +kernel
theorem dX5_process_286 : decode cX5_process 286 = .ok (.iload_n 3, 1) := by decide +kernel
theorem dX5_process_287 : decode cX5_process 287 = .ok (.bipush 103, 2) := by decide +kernel
theorem dX5_process_289 : decode cX5_process 289 = .ok (.invokevirtual 162, 3) := by decide +kernel
theorem dX5_process_292 : decode cX5_process 292 = .ok (.iinc 4 1, 3) := by decide +kernel
theorem dX5_process_295 : decode cX5_process 295 = .ok (.goto (-92), 3) := by decide +kernel
theorem dX5_process_298 : decode cX5_process 298 = .ok (.iinc 3 1, 3) := by decide +kernel
theorem dX5_process_301 : decode cX5_process 301 = .ok (.goto (-111), 3) := by decide +kernel
theorem dX5_process_304 : decode cX5_process 304 = .ok (.aload_n 0, 1) := by decide +kernel
theorem dX5_process_305 : decode cX5_process 305 = .ok (.dup, 1) := by decide +kernel
theorem dX5_process_306 : decode cX5_process 306 = .ok (.getfield 196, 3) := by decide +kernel
theorem dX5_process_309 : decode cX5_process 309 = .ok (.aload_n 0, 1) := by decide +kernel
theorem dX5_process_310 : decode cX5_process 310 = .ok (.getfield 111, 3) := by decide +kernel
theorem dX5_process_313 : decode cX5_process 313 = .ok (.iadd, 1) := by decide +kernel
theorem dX5_process_314 : decode cX5_process 314 = .ok (.putfield 196, 3) := by decide +kernel
theorem dX5_process_317 : decode cX5_process 317 = .ok (.aload_n 0, 1) := by decide +kernel
theorem dX5_process_318 : decode cX5_process 318 = .ok (.iconst 0, 1) := by decide +kernel
theorem dX5_process_319 : decode cX5_process 319 = .ok (.putfield 111, 3) := by decide +kernel
theorem dX5_process_322 : decode cX5_process 322 = .ok (.iload_n 1, 1) := by decide +kernel
theorem dX5_process_323 : decode cX5_process 323 = .ok (.ireturn, 1) := by decide +kernel
theorem dX5_batch_0 : decode cX5_batch 0 = .ok (.aload_n 0, 1) := by decide +kernel
theorem dX5_batch_1 : decode cX5_batch 1 = .ok (.iconst 0, 1) := by decide +kernel
theorem dX5_batch_2 : decode cX5_batch 2 = .ok (.putfield 62, 3) := by decide +kernel
theorem dX5_batch_5 : decode cX5_batch 5 = .ok (.aload_n 0, 1) := by decide +kernel
theorem dX5_batch_6 : decode cX5_batch 6 = .ok (.getfield 111, 3) := by decide +kernel
theorem dX5_batch_9 : decode cX5_batch 9 = .ok (.ireturn, 1) := by decide +kernel
theorem dX5_isAsked_0 : decode cX5_isAsked 0 = .ok (.aload_n 0, 1) := by decide +kernel
theorem dX5_isAsked_1 : decode cX5_isAsked 1 = .ok (.iload_n 1, 1) := by decide +kernel
theorem dX5_isAsked_2 : decode cX5_isAsked 2 = .ok (.i2l, 1) := by decide +kernel
theorem dX5_isAsked_3 : decode cX5_isAsked 3 = .ok (.lconst 0, 1) := by decide +kernel
theorem dX5_isAsked_4 : decode cX5_isAsked 4 = .ok (.aload_n 0, 1) := by decide +kernel
theorem dX5_isAsked_5 : decode cX5_isAsked 5 = .ok (.getfield 111, 3) := by decide +kernel
theorem dX5_isAsked_8 : decode cX5_isAsked 8 = .ok (.iconst 1, 1) := by decide +kernel
theorem dX5_isAsked_9 : decode cX5_isAsked 9 = .ok (.isub, 1) := by decide +kernel
theorem dX5_isAsked_10 : decode cX5_isAsked 10 = .ok (.i2l, 1) := by decide +kernel
theorem dX5_isAsked_11 : decode cX5_isAsked 11 = .ok (.invokestatic 67, 3) := by decide +kernel
theorem dX5_isAsked_14 : decode cX5_isAsked 14 = .ok (.ifCond .ne 7, 3) := by decide +kernel
theorem dX5_isAsked_17 : decode cX5_isAsked 17 = .ok (.iconst 1, 1) := by decide +kernel
theorem dX5_isAsked_18 : decode cX5_isAsked 18 = .ok (.goto 24, 3) := by decide +kernel
theorem dX5_isAsked_21 : decode cX5_isAsked 21 = .ok (.aload_n 0, 1) := by decide +kernel
theorem dX5_isAsked_22 : decode cX5_isAsked 22 = .ok (.iload_n 2, 1) := by decide +kernel
theorem dX5_isAsked_23 : decode cX5_isAsked 23 = .ok (.invokevirtual 199, 3) := by decide +kernel
theorem dX5_isAsked_26 : decode cX5_isAsked 26 = .ok (.ifCond .eq 11, 3) := by decide +kernel
theorem dX5_isAsked_29 : decode cX5_isAsked 29 = .ok (.aload_n 0, 1) := by decide +kernel
theorem dX5_isAsked_30 : decode cX5_isAsked 30 = .ok (.iload_n 2, 1) := by decide +kernel
theorem dX5_isAsked_31 : decode cX5_isAsked 31 = .ok (.invokevirtual 123, 3) := by decide +kernel
theorem dX5_isAsked_34 : decode cX5_isAsked 34 = .ok (.ifCond .ne 7, 3) := by decide +kernel
theorem dX5_isAsked_37 : decode cX5_isAsked 37 = .ok (.iconst 2, 1) := by decide +kernel
theorem dX5_isAsked_38 : decode cX5_isAsked 38 = .ok (.goto 4, 3) := by decide +kernel
theorem dX5_isAsked_41 : decode cX5_isAsked 41 = .ok (.iconst 0, 1) := by decide +kernel
theorem dX5_isAsked_42 : decode cX5_isAsked 42 = .ok (.putfield 62, 3) := by decide +kernel
theorem dX5_isAsked_45 : decode cX5_isAsked 45 = .ok (.aload_n 0, 1) := by decide +kernel
theorem dX5_isAsked_46 : decode cX5_isAsked 46 = .ok (.getfield 62, 3) := by decide +kernel
theorem dX5_isAsked_49 : decode cX5_isAsked 49 = .ok (.ifCond .ne 7, 3) := by decide +kernel
theorem dX5_isAsked_52 : decode cX5_isAsked 52 = .ok (.iconst 1, 1) := by decide +kernel
theorem dX5_isAsked_53 : decode cX5_isAsked 53 = .ok (.goto 4, 3) := by decide +kernel
theorem dX5_isAsked_56 : decode cX5_isAsked 56 = .ok (.iconst 0, 1) := by decide +kernel
theorem dX5_isAsked_57 : decode cX5_isAsked 57 = .ok (.ireturn, 1) := by decide +kernel
theorem dX5_distance_0 : decode cX5_distance 0 = .ok (.aload_n 0, 1) := by decide +kernel
theorem dX5_distance_1 : decode cX5_distance 1 = .ok (.iload_n 1, 1) := by decide +kernel
theorem dX5_distance_2 : decode cX5_distance 2 = .ok (.iload_n 2, 1) := by decide +kernel
theorem dX5_distance_3 : decode cX5_distance 3 = .ok (.invokevirtual 202, 3) := by decide +kernel
theorem dX5_distance_6 : decode cX5_distance 6 = .ok (.ifCond .eq 12, 3) := by decide +kernel
theorem dX5_distance_9 : decode cX5_distance 9 = .ok (.aload_n 0, 1) := by decide +kernel
theorem dX5_distance_10 : decode cX5_distance 10 = .ok (.iload_n 1, 1) := by decide +kernel
theorem dX5_distance_11 : decode cX5_distance 11 = .ok (.iload_n 2, 1) := by decide +kernel
theorem dX5_distance_12 : decode cX5_distance 12 = .ok (.invokevirtual 126, 3) := by decide +kernel
theorem dX5_distance_15 : decode cX5_distance 15 = .ok (.goto 6, 3) := by decide +kernel
theorem dX5_distance_18 : decode cX5_distance 18 = .ok (.ldc2_w 138, 3) := by decide +kernel
theorem dX5_distance_21 : decode cX5_distance 21 = .ok (.lreturn, 1) := by decide +kernel
theorem dX5_canTake_0 : decode cX5_canTake 0 = .ok (.aload_n 0, 1) := by decide +kernel
theorem dX5_canTake_1 : decode cX5_canTake 1 = .ok (.iload_n 1, 1) := by decide +kernel
theorem dX5_canTake_2 : decode cX5_canTake 2 = .ok (.iload_n 2, 1) := by decide +kernel
theorem dX5_canTake_3 : decode cX5_canTake 3 = .ok (.invokevirtual 202, 3) := by decide +kernel
theorem dX5_canTake_6 : decode cX5_canTake 6 = .ok (.ifCond .eq 16, 3) := by decide +kernel
theorem dX5_canTake_9 : decode cX5_canTake 9 = .ok (.aload_n 0, 1) := by decide +kernel
theorem dX5_canTake_10 : decode cX5_canTake 10 = .ok (.iload_n 1, 1) := by decide +kernel
theorem dX5_canTake_11 : decode cX5_canTake 11 = .ok (.iload_n 2, 1) := by decide +kernel
theorem dX5_canTake_12 : decode cX5_canTake 12 = .ok (.invokevirtual 140, 3) := by decide +kernel
theorem dX5_canTake_15 : decode cX5_canTake 15 = .ok (.ifCond .eq 7, 3) := by decide +kernel
theorem dX5_canTake_18 : decode cX5_canTake 18 = .ok (.iconst 1, 1) := by decide +kernel
theorem dX5_canTake_19 : decode cX5_canTake 19 = .ok (.goto 4, 3) := by decide +kernel
theorem dX5_canTake_22 : decode cX5_canTake 22 = .ok (.iconst 0, 1) := by decide +kernel
theorem dX5_canTake_23 : decode cX5_canTake 23 = .ok (.ireturn, 1) := by decide +kernel
theorem dX5_bestCost_0 : decode cX5_bestCost 0 = .ok (.aload_n 0, 1) := by decide +kernel
theorem dX5_bestCost_1 : decode cX5_bestCost 1 = .ok (.iconst 0, 1) := by decide +kernel
theorem dX5_bestCost_2 : decode cX5_bestCost 2 = .ok (.putfield 62, 3) := by decide +kernel
theorem dX5_bestCost_5 : decode cX5_bestCost 5 = .ok (.aload_n 0, 1) := by decide +kernel
theorem dX5_bestCost_6 : decode cX5_bestCost 6 = .ok (.invokevirtual 179, 3) := by decide +kernel
theorem dX5_bestCost_9 : decode cX5_bestCost 9 = .ok (.aload_n 0, 1) := by decide +kernel
theorem dX5_bestCost_10 : decode cX5_bestCost 10 = .ok (.getfield 134, 3) := by decide +kernel
theorem dX5_bestCost_13 : decode cX5_bestCost 13 = .ok (.lreturn, 1) := by decide +kernel
theorem dX5_bestCostByTrying_0 : decode cX5_bestCostByTrying 0 = .ok (.aload_n 0, 1) := by decide +kernel
theorem dX5_bestCostByTrying_1 : decode cX5_bestCostByTrying 1 = .ok (.invokevirtual 205, 3) := by decide +kernel
theorem dX5_bestCostByTrying_4 : decode cX5_bestCostByTrying 4 = .ok (.lreturn, 1) := by decide +kernel
theorem dX5_goesTo_0 : decode cX5_goesTo 0 = .ok (.aload_n 0, 1) := by decide +kernel
theorem dX5_goesTo_1 : decode cX5_goesTo 1 = .ok (.iload_n 1, 1) := by decide +kernel
theorem dX5_goesTo_2 : decode cX5_goesTo 2 = .ok (.i2l, 1) := by decide +kernel
theorem dX5_goesTo_3 : decode cX5_goesTo 3 = .ok (.lconst 0, 1) := by decide +kernel
theorem dX5_goesTo_4 : decode cX5_goesTo 4 = .ok (.aload_n 0, 1) := by decide +kernel
theorem dX5_goesTo_5 : decode cX5_goesTo 5 = .ok (.getfield 111, 3) := by decide +kernel
theorem dX5_goesTo_8 : decode cX5_goesTo 8 = .ok (.iconst 1, 1) := by decide +kernel
theorem dX5_goesTo_9 : decode cX5_goesTo 9 = .ok (.isub, 1) := by decide +kernel
theorem dX5_goesTo_10 : decode cX5_goesTo 10 = .ok (.i2l, 1) := by decide +kernel
theorem dX5_goesTo_11 : decode cX5_goesTo 11 = .ok (.invokestatic 67, 3) := by decide +kernel
theorem dX5_goesTo_14 : decode cX5_goesTo 14 = .ok (.ifCond .eq 7, 3) := by decide +kernel
theorem dX5_goesTo_17 : decode cX5_goesTo 17 = .ok (.iconst 0, 1) := by decide +kernel
theorem dX5_goesTo_18 : decode cX5_goesTo 18 = .ok (.goto 4, 3) := by decide +kernel
theorem dX5_goesTo_21 : decode cX5_goesTo 21 = .ok (.iconst 1, 1) := by decide +kernel
theorem dX5_goesTo_22 : decode cX5_goesTo 22 = .ok (.putfield 62, 3) := by decide +kernel
theorem dX5_goesTo_25 : decode cX5_goesTo 25 = .ok (.aload_n 0, 1) := by decide +kernel
theorem dX5_goesTo_26 : decode cX5_goesTo 26 = .ok (.getfield 62, 3) := by decide +kernel
theorem dX5_goesTo_29 : decode cX5_goesTo 29 = .ok (.ifCond .le 5, 3) := by decide +kernel
theorem dX5_goesTo_32 : decode cX5_goesTo 32 = .ok (.iconst (-1), 1) := by decide +kernel
theorem dX5_goesTo_33 : decode cX5_goesTo 33 = .ok (.ireturn, 1) := by decide +kernel
theorem dX5_goesTo_34 : decode cX5_goesTo 34 = .ok (.aload_n 0, 1) := by decide +kernel
theorem dX5_goesTo_35 : decode cX5_goesTo 35 = .ok (.invokevirtual 179, 3) := by decide +kernel
theorem dX5_goesTo_38 : decode cX5_goesTo 38 = .ok (.aload_n 0, 1) := by decide +kernel
theorem dX5_goesTo_39 : decode cX5_goesTo 39 = .ok (.getfield 56, 3) := by decide +kernel
theorem dX5_goesTo_42 : decode cX5_goesTo 42 = .ok (.iload_n 1, 1) := by decide +kernel
theorem dX5_goesTo_43 : decode cX5_goesTo 43 = .ok (.iaload, 1) := by decide +kernel
theorem dX5_goesTo_44 : decode cX5_goesTo 44 = .ok (.ireturn, 1) := by decide +kernel
theorem dX5_tracks_0 : decode cX5_tracks 0 = .ok (.aload_n 0, 1) := by decide +kernel
theorem dX5_tracks_1 : decode cX5_tracks 1 = .ok (.iconst 0, 1) := by decide +kernel
theorem dX5_tracks_2 : decode cX5_tracks 2 = .ok (.putfield 62, 3) := by decide +kernel
theorem dX5_tracks_5 : decode cX5_tracks 5 = .ok (.aload_n 0, 1) := by decide +kernel
theorem dX5_tracks_6 : decode cX5_tracks 6 = .ok (.getfield 71, 3) := by decide +kernel
theorem dX5_tracks_9 : decode cX5_tracks 9 = .ok (.ireturn, 1) := by decide +kernel
theorem dX5_liveTracks_0 : decode cX5_liveTracks 0 = .ok (.aload_n 0, 1) := by decide +kernel
theorem dX5_liveTracks_1 : decode cX5_liveTracks 1 = .ok (.iconst 0, 1) := by decide +kernel
theorem dX5_liveTracks_2 : decode cX5_liveTracks 2 = .ok (.putfield 62, 3) := by decide +kernel
theorem dX5_liveTracks_5 : decode cX5_liveTracks 5 = .ok (.aload_n 0, 1) := by decide +kernel
theorem dX5_liveTracks_6 : decode cX5_liveTracks 6 = .ok (.invokevirtual 166, 3) := by decide +kernel
theorem dX5_liveTracks_9 : decode cX5_liveTracks 9 = .ok (.ireturn, 1) := by decide +kernel
theorem dX5_isThere_0 : decode cX5_isThere 0 = .ok (.aload_n 0, 1) := by decide +kernel
theorem dX5_isThere_1 : decode cX5_isThere 1 = .ok (.aload_n 0, 1) := by decide +kernel
theorem dX5_isThere_2 : decode cX5_isThere 2 = .ok (.iload_n 1, 1) := by decide +kernel
theorem dX5_isThere_3 : decode cX5_isThere 3 = .ok (.invokevirtual 199, 3) := by decide +kernel
theorem dX5_isThere_6 : decode cX5_isThere 6 = .ok (.ifCond .eq 7, 3) := by decide +kernel
theorem dX5_isThere_9 : decode cX5_isThere 9 = .ok (.iconst 0, 1) := by decide +kernel
theorem dX5_isThere_10 : decode cX5_isThere 10 = .ok (.goto 4, 3) := by decide +kernel
theorem dX5_isThere_13 : decode cX5_isThere 13 = .ok (.iconst 1, 1) := by decide +kernel
theorem dX5_isThere_14 : decode cX5_isThere 14 = .ok (.putfield 62, 3) := by decide +kernel
theorem dX5_isThere_17 : decode cX5_isThere 17 = .ok (.aload_n 0, 1) := by decide +kernel
theorem dX5_isThere_18 : decode cX5_isThere 18 = .ok (.getfield 62, 3) := by decide +kernel
theorem dX5_isThere_21 : decode cX5_isThere 21 = .ok (.ifCond .ne 7, 3) := by decide +kernel
theorem dX5_isThere_24 : decode cX5_isThere 24 = .ok (.iconst 1, 1) := by decide +kernel
theorem dX5_isThere_25 : decode cX5_isThere 25 = .ok (.goto 4, 3) := by decide +kernel
theorem dX5_isThere_28 : decode cX5_isThere 28 = .ok (.iconst 0, 1) := by decide +kernel
theorem dX5_isThere_29 : decode cX5_isThere 29 = .ok (.ireturn, 1) := by decide +kernel
theorem dX5_status_0 : decode cX5_status 0 = .ok (.aload_n 0, 1) := by decide +kernel
theorem dX5_status_1 : decode cX5_status 1 = .ok (.iload_n 1, 1) := by decide +kernel
theorem dX5_status_2 : decode cX5_status 2 = .ok (.invokevirtual 207, 3) := by decide +kernel
theorem dX5_status_5 : decode cX5_status 5 = .ok (.ifCond .ne 6, 3) := by decide +kernel
theorem dX5_status_8 : decode cX5_status 8 = .ok (.bipush 32, 2) := by decide +kernel
theorem dX5_status_10 : decode cX5_status 10 = .ok (.ireturn, 1) := by decide +kernel
theorem dX5_status_11 : decode cX5_status 11 = .ok (.aload_n 0, 1) := by decide +kernel
theorem dX5_status_12 : decode cX5_status 12 = .ok (.iload_n 1, 1) := by decide +kernel
theorem dX5_status_13 : decode cX5_status 13 = .ok (.bipush 7, 2) := by decide +kernel
theorem dX5_status_15 : decode cX5_status 15 = .ok (.invokevirtual 74, 3) := by decide +kernel
theorem dX5_status_18 : decode cX5_status 18 = .ok (.istore_n 2, 1) := by decide +kernel
theorem dX5_status_19 : decode cX5_status 19 = .ok (.iload_n 2, 1) := by decide +kernel
theorem dX5_status_20 : decode cX5_status 20 = .ok (.iconst 1, 1) := by decide +kernel
theorem dX5_status_21 : decode cX5_status 21 = .ok (.if_icmp .ne 8, 3) := by decide +kernel
theorem dX5_status_24 : decode cX5_status 24 = .ok (.bipush 108, 2) := by decide +kernel
theorem dX5_status_26 : decode cX5_status 26 = .ok (.goto 30, 3) := by decide +kernel
theorem dX5_status_29 : decode cX5_status 29 = .ok (.iload_n 2, 1) := by decide +kernel
theorem dX5_status_30 : decode cX5_status 30 = .ok (.iconst 2, 1) := by decide +kernel
theorem dX5_status_31 : decode cX5_status 31 = .ok (.if_icmp .ne 8, 3) := by decide +kernel
theorem dX5_status_34 : decode cX5_status 34 = .ok (.bipush 109, 2) := by decide +kernel
theorem dX5_status_36 : decode cX5_status 36 = .ok (.goto 20, 3) := by decide +kernel
theorem dX5_status_39 : decode cX5_status 39 = .ok (.aload_n 0, 1) := by decide +kernel
theorem dX5_status_40 : decode cX5_status 40 = .ok (.iload_n 1, 1) := by decide +kernel
theorem dX5_status_41 : decode cX5_status 41 = .ok (.iconst 5, 1) := by decide +kernel
theorem dX5_status_42 : decode cX5_status 42 = .ok (.invokevirtual 74, 3) := by decide +kernel
theorem dX5_status_45 : decode cX5_status 45 = .ok (.iconst 3, 1) := by decide +kernel
theorem dX5_status_46 : decode cX5_status 46 = .ok (.if_icmp .ge 8, 3) := by decide +kernel
theorem dX5_status_49 : decode cX5_status 49 = .ok (.bipush 116, 2) := by decide +kernel
theorem dX5_status_51 : decode cX5_status 51 = .ok (.goto 5, 3) := by decide +kernel
theorem dX5_status_54 : decode cX5_status 54 = .ok (.bipush 99, 2) := by decide +kernel
theorem dX5_status_56 : decode cX5_status 56 = .ok (.ireturn, 1) := by decide +kernel
theorem dX5_timeOf_0 : decode cX5_timeOf 0 = .ok (.aload_n 0, 1) := by decide +kernel
theorem dX5_timeOf_1 : decode cX5_timeOf 1 = .ok (.iload_n 1, 1) := by decide +kernel
theorem dX5_timeOf_2 : decode cX5_timeOf 2 = .ok (.invokevirtual 207, 3) := by decide +kernel
theorem dX5_timeOf_5 : decode cX5_timeOf 5 = .ok (.ifCond .eq 12, 3) := by decide +kernel
theorem dX5_timeOf_8 : decode cX5_timeOf 8 = .ok (.aload_n 0, 1) := by decide +kernel
theorem dX5_timeOf_9 : decode cX5_timeOf 9 = .ok (.iload_n 1, 1) := by decide +kernel
theorem dX5_timeOf_10 : decode cX5_timeOf 10 = .ok (.iconst 0, 1) := by decide +kernel
theorem dX5_timeOf_11 : decode cX5_timeOf 11 = .ok (.invokevirtual 74, 3) := by decide +kernel
theorem dX5_timeOf_14 : decode cX5_timeOf 14 = .ok (.goto 4, 3) := by decide +kernel
theorem dX5_timeOf_17 : decode cX5_timeOf 17 = .ok (.iconst (-1), 1) := by decide +kernel
theorem dX5_timeOf_18 : decode cX5_timeOf 18 = .ok (.ireturn, 1) := by decide +kernel
theorem dX5_stateOf_0 : decode cX5_stateOf 0 = .ok (.aload_n 0, 1) := by decide +kernel
theorem dX5_stateOf_1 : decode cX5_stateOf 1 = .ok (.aload_n 0, 1) := by decide +kernel
theorem dX5_stateOf_2 : decode cX5_stateOf 2 = .ok (.iload_n 1, 1) := by decide +kernel
theorem dX5_stateOf_3 : decode cX5_stateOf 3 = .ok (.invokevirtual 199, 3) := by decide +kernel
theorem dX5_stateOf_6 : decode cX5_stateOf 6 = .ok (.ifCond .ne 7, 3) := by decide +kernel
theorem dX5_stateOf_9 : decode cX5_stateOf 9 = .ok (.iconst 1, 1) := by decide +kernel
theorem dX5_stateOf_10 : decode cX5_stateOf 10 = .ok (.goto 20, 3) := by decide +kernel
theorem dX5_stateOf_13 : decode cX5_stateOf 13 = .ok (.iload_n 2, 1) := by decide +kernel
theorem dX5_stateOf_14 : decode cX5_stateOf 14 = .ok (.i2l, 1) := by decide +kernel
theorem dX5_stateOf_15 : decode cX5_stateOf 15 = .ok (.lconst 0, 1) := by decide +kernel
theorem dX5_stateOf_16 : decode cX5_stateOf 16 = .ok (.ldc2_w 65, 3) := by decide +kernel
theorem dX5_stateOf_19 : decode cX5_stateOf 19 = .ok (.invokestatic 67, 3) := by decide +kernel
theorem dX5_stateOf_22 : decode cX5_stateOf 22 = .ok (.ifCond .ne 7, 3) := by decide +kernel
theorem dX5_stateOf_25 : decode cX5_stateOf 25 = .ok (.iconst 2, 1) := by decide +kernel
theorem dX5_stateOf_26 : decode cX5_stateOf 26 = .ok (.goto 4, 3) := by decide +kernel
theorem dX5_stateOf_29 : decode cX5_stateOf 29 = .ok (.iconst 0, 1) := by decide +kernel
theorem dX5_stateOf_30 : decode cX5_stateOf 30 = .ok (.putfield 62, 3) := by decide +kernel
theorem dX5_stateOf_33 : decode cX5_stateOf 33 = .ok (.aload_n 0, 1) := by decide +kernel
theorem dX5_stateOf_34 : decode cX5_stateOf 34 = .ok (.getfield 62, 3) := by decide +kernel
theorem dX5_stateOf_37 : decode cX5_stateOf 37 = .ok (.ifCond .ne 14, 3) := by decide +kernel
theorem dX5_stateOf_40 : decode cX5_stateOf 40 = .ok (.aload_n 0, 1) := by decide +kernel
theorem dX5_stateOf_41 : decode cX5_stateOf 41 = .ok (.iload_n 1, 1) := by decide +kernel
theorem dX5_stateOf_42 : decode cX5_stateOf 42 = .ok (.iconst 1, 1) := by decide +kernel
theorem dX5_stateOf_43 : decode cX5_stateOf 43 = .ok (.iload_n 2, 1) := by decide +kernel
theorem dX5_stateOf_44 : decode cX5_stateOf 44 = .ok (.iadd, 1) := by decide +kernel
theorem dX5_stateOf_45 : decode cX5_stateOf 45 = .ok (.invokevirtual 74, 3) := by decide +kernel
theorem dX5_stateOf_48 : decode cX5_stateOf 48 = .ok (.goto 4, 3) := by decide +kernel
theorem dX5_stateOf_51 : decode cX5_stateOf 51 = .ok (.iconst (-1), 1) := by decide +kernel
theorem dX5_stateOf_52 : decode cX5_stateOf 52 = .ok (.ireturn, 1) := by decide +kernel
theorem dX5_isAhead_0 : decode cX5_isAhead 0 = .ok (.iload_n 0, 1) := by decide +kernel
theorem dX5_isAhead_1 : decode cX5_isAhead 1 = .ok (.i2l, 1) := by decide +kernel
theorem dX5_isAhead_2 : decode cX5_isAhead 2 = .ok (.ldc2_w 210, 3) := by decide +kernel
theorem dX5_isAhead_5 : decode cX5_isAhead 5 = .ok (.ldc2_w 212, 3) := by decide +kernel
theorem dX5_isAhead_8 : decode cX5_isAhead 8 = .ok (.invokestatic 67, 3) := by decide +kernel
theorem dX5_isAhead_11 : decode cX5_isAhead 11 = .ok (.ireturn, 1) := by decide +kernel
theorem dX5_predicted_0 : decode cX5_predicted 0 = .ok (.aload_n 0, 1) := by decide +kernel
theorem dX5_predicted_1 : decode cX5_predicted 1 = .ok (.aload_n 0, 1) := by decide +kernel
theorem dX5_predicted_2 : decode cX5_predicted 2 = .ok (.iload_n 1, 1) := by decide +kernel
theorem dX5_predicted_3 : decode cX5_predicted 3 = .ok (.invokevirtual 199, 3) := by decide +kernel
theorem dX5_predicted_6 : decode cX5_predicted 6 = .ok (.ifCond .ne 7, 3) := by decide +kernel
theorem dX5_predicted_9 : decode cX5_predicted 9 = .ok (.iconst 1, 1) := by decide +kernel
theorem dX5_predicted_10 : decode cX5_predicted 10 = .ok (.goto 15, 3) := by decide +kernel
theorem dX5_predicted_13 : decode cX5_predicted 13 = .ok (.iload_n 2, 1) := by decide +kernel
theorem dX5_predicted_14 : decode cX5_predicted 14 = .ok (.invokestatic 214, 3) := by decide +kernel
theorem dX5_predicted_17 : decode cX5_predicted 17 = .ok (.ifCond .ne 7, 3) := by decide +kernel
theorem dX5_predicted_20 : decode cX5_predicted 20 = .ok (.iconst 2, 1) := by decide +kernel
theorem dX5_predicted_21 : decode cX5_predicted 21 = .ok (.goto 4, 3) := by decide +kernel
theorem dX5_predicted_24 : decode cX5_predicted 24 = .ok (.iconst 0, 1) := by decide +kernel
theorem dX5_predicted_25 : decode cX5_predicted 25 = .ok (.putfield 62, 3) := by decide +kernel
theorem dX5_predicted_28 : decode cX5_predicted 28 = .ok (.aload_n 0, 1) := by decide +kernel
theorem dX5_predicted_29 : decode cX5_predicted 29 = .ok (.getfield 62, 3) := by decide +kernel
theorem dX5_predicted_32 : decode cX5_predicted 32 = .ok (.ifCond .ne 28, 3) := by decide +kernel
theorem dX5_predicted_35 : decode cX5_predicted 35 = .ok (.aload_n 0, 1) := by decide +kernel
theorem dX5_predicted_36 : decode cX5_predicted 36 = .ok (.iload_n 1, 1) := by decide +kernel
theorem dX5_predicted_37 : decode cX5_predicted 37 = .ok (.iload_n 2, 1) := by decide +kernel
theorem dX5_predicted_38 : decode cX5_predicted 38 = .ok (.iload_n 3, 1) := by decide +kernel
theorem dX5_predicted_39 : decode cX5_predicted 39 = .ok (.ifCond .eq 7, 3) := by decide +kernel
theorem dX5_predicted_42 : decode cX5_predicted 42 = .ok (.iconst 1, 1) := by decide +kernel
theorem dX5_predicted_43 : decode cX5_predicted 43 = .ok (.goto 4, 3) := by decide +kernel
theorem dX5_predicted_46 : decode cX5_predicted 46 = .ok (.iconst 0, 1) := by decide +kernel
theorem dX5_predicted_47 : decode cX5_predicted 47 = .ok (.invokevirtual 114, 3) := by decide +kernel
theorem dX5_predicted_50 : decode cX5_predicted 50 = .ok (.ldc2_w 97, 3) := by decide +kernel
theorem dX5_predicted_53 : decode cX5_predicted 53 = .ok (.invokestatic 217, 3) := by decide +kernel
theorem dX5_predicted_56 : decode cX5_predicted 56 = .ok (.l2i, 1) := by decide +kernel
theorem dX5_predicted_57 : decode cX5_predicted 57 = .ok (.goto 4, 3) := by decide +kernel
theorem dX5_predicted_60 : decode cX5_predicted 60 = .ok (.iconst (-1), 1) := by decide +kernel
theorem dX5_predicted_61 : decode cX5_predicted 61 = .ok (.ireturn, 1) := by decide +kernel
theorem dX5_hits_0 : decode cX5_hits 0 = .ok (.aload_n 0, 1) := by decide +kernel
theorem dX5_hits_1 : decode cX5_hits 1 = .ok (.iload_n 1, 1) := by decide +kernel
theorem dX5_hits_2 : decode cX5_hits 2 = .ok (.invokevirtual 207, 3) := by decide +kernel
theorem dX5_hits_5 : decode cX5_hits 5 = .ok (.ifCond .eq 12, 3) := by decide +kernel
theorem dX5_hits_8 : decode cX5_hits 8 = .ok (.aload_n 0, 1) := by decide +kernel
theorem dX5_hits_9 : decode cX5_hits 9 = .ok (.iload_n 1, 1) := by decide +kernel
theorem dX5_hits_10 : decode cX5_hits 10 = .ok (.iconst 5, 1) := by decide +kernel
theorem dX5_hits_11 : decode cX5_hits 11 = .ok (.invokevirtual 74, 3) := by decide +kernel
theorem dX5_hits_14 : decode cX5_hits 14 = .ok (.goto 4, 3) := by decide +kernel
theorem dX5_hits_17 : decode cX5_hits 17 = .ok (.iconst (-1), 1) := by decide +kernel
theorem dX5_hits_18 : decode cX5_hits 18 = .ok (.ireturn, 1) := by decide +kernel
theorem dX5_misses_0 : decode cX5_misses 0 = .ok (.aload_n 0, 1) := by decide +kernel
theorem dX5_misses_1 : decode cX5_misses 1 = .ok (.iload_n 1, 1) := by decide +kernel
theorem dX5_misses_2 : decode cX5_misses 2 = .ok (.invokevirtual 207, 3) := by decide +kernel
theorem dX5_misses_5 : decode cX5_misses 5 = .ok (.ifCond .eq 13, 3) := by decide +kernel
theorem dX5_misses_8 : decode cX5_misses 8 = .ok (.aload_n 0, 1) := by decide +kernel
theorem dX5_misses_9 : decode cX5_misses 9 = .ok (.iload_n 1, 1) := by decide +kernel
theorem dX5_misses_10 : decode cX5_misses 10 = .ok (.bipush 6, 2) := by decide +kernel
theorem dX5_misses_12 : decode cX5_misses 12 = .ok (.invokevirtual 74, 3) := by decide +kernel
theorem dX5_misses_15 : decode cX5_misses 15 = .ok (.goto 4, 3) := by decide +kernel
theorem dX5_misses_18 : decode cX5_misses 18 = .ok (.iconst (-1), 1) := by decide +kernel
theorem dX5_misses_19 : decode cX5_misses 19 = .ok (.ireturn, 1) := by decide +kernel
theorem dX5_mergedInto_0 : decode cX5_mergedInto 0 = .ok (.aload_n 0, 1) := by decide +kernel
theorem dX5_mergedInto_1 : decode cX5_mergedInto 1 = .ok (.aload_n 0, 1) := by decide +kernel
theorem dX5_mergedInto_2 : decode cX5_mergedInto 2 = .ok (.iload_n 1, 1) := by decide +kernel
theorem dX5_mergedInto_3 : decode cX5_mergedInto 3 = .ok (.invokevirtual 199, 3) := by decide +kernel
theorem dX5_mergedInto_6 : decode cX5_mergedInto 6 = .ok (.ifCond .ne 7, 3) := by decide +kernel
theorem dX5_mergedInto_9 : decode cX5_mergedInto 9 = .ok (.iconst 1, 1) := by decide +kernel
theorem dX5_mergedInto_10 : decode cX5_mergedInto 10 = .ok (.goto 19, 3) := by decide +kernel
theorem dX5_mergedInto_13 : decode cX5_mergedInto 13 = .ok (.aload_n 0, 1) := by decide +kernel
theorem dX5_mergedInto_14 : decode cX5_mergedInto 14 = .ok (.iload_n 1, 1) := by decide +kernel
theorem dX5_mergedInto_15 : decode cX5_mergedInto 15 = .ok (.bipush 7, 2) := by decide +kernel
theorem dX5_mergedInto_17 : decode cX5_mergedInto 17 = .ok (.invokevirtual 74, 3) := by decide +kernel
theorem dX5_mergedInto_20 : decode cX5_mergedInto 20 = .ok (.iconst 2, 1) := by decide +kernel
theorem dX5_mergedInto_21 : decode cX5_mergedInto 21 = .ok (.if_icmp .eq 7, 3) := by decide +kernel
theorem dX5_mergedInto_24 : decode cX5_mergedInto 24 = .ok (.iconst 2, 1) := by decide +kernel
theorem dX5_mergedInto_25 : decode cX5_mergedInto 25 = .ok (.goto 4, 3) := by decide +kernel
theorem dX5_mergedInto_28 : decode cX5_mergedInto 28 = .ok (.iconst 0, 1) := by decide +kernel
theorem dX5_mergedInto_29 : decode cX5_mergedInto 29 = .ok (.putfield 62, 3) := by decide +kernel
theorem dX5_mergedInto_32 : decode cX5_mergedInto 32 = .ok (.aload_n 0, 1) := by decide +kernel
theorem dX5_mergedInto_33 : decode cX5_mergedInto 33 = .ok (.getfield 62, 3) := by decide +kernel
theorem dX5_mergedInto_36 : decode cX5_mergedInto 36 = .ok (.ifCond .ne 13, 3) := by decide +kernel
theorem dX5_mergedInto_39 : decode cX5_mergedInto 39 = .ok (.aload_n 0, 1) := by decide +kernel
theorem dX5_mergedInto_40 : decode cX5_mergedInto 40 = .ok (.iload_n 1, 1) := by decide +kernel
theorem dX5_mergedInto_41 : decode cX5_mergedInto 41 = .ok (.bipush 8, 2) := by decide +kernel
theorem dX5_mergedInto_43 : decode cX5_mergedInto 43 = .ok (.invokevirtual 74, 3) := by decide +kernel
theorem dX5_mergedInto_46 : decode cX5_mergedInto 46 = .ok (.goto 4, 3) := by decide +kernel
theorem dX5_mergedInto_49 : decode cX5_mergedInto 49 = .ok (.iconst (-1), 1) := by decide +kernel
theorem dX5_mergedInto_50 : decode cX5_mergedInto 50 = .ok (.ireturn, 1) := by decide +kernel
theorem dX5_historyLength_0 : decode cX5_historyLength 0 = .ok (.aload_n 0, 1) := by decide +kernel
theorem dX5_historyLength_1 : decode cX5_historyLength 1 = .ok (.iload_n 1, 1) := by decide +kernel
theorem dX5_historyLength_2 : decode cX5_historyLength 2 = .ok (.invokevirtual 207, 3) := by decide +kernel
theorem dX5_historyLength_5 : decode cX5_historyLength 5 = .ok (.ifCond .eq 12, 3) := by decide +kernel
theorem dX5_historyLength_8 : decode cX5_historyLength 8 = .ok (.aload_n 0, 1) := by decide +kernel
theorem dX5_historyLength_9 : decode cX5_historyLength 9 = .ok (.getfield 25, 3) := by decide +kernel
theorem dX5_historyLength_12 : decode cX5_historyLength 12 = .ok (.iload_n 1, 1) := by decide +kernel
theorem dX5_historyLength_13 : decode cX5_historyLength 13 = .ok (.iaload, 1) := by decide +kernel
theorem dX5_historyLength_14 : decode cX5_historyLength 14 = .ok (.goto 4, 3) := by decide +kernel
theorem dX5_historyLength_17 : decode cX5_historyLength 17 = .ok (.iconst (-1), 1) := by decide +kernel
theorem dX5_historyLength_18 : decode cX5_historyLength 18 = .ok (.ireturn, 1) := by decide +kernel
theorem dX5_historyAt_0 : decode cX5_historyAt 0 = .ok (.aload_n 0, 1) := by decide +kernel
theorem dX5_historyAt_1 : decode cX5_historyAt 1 = .ok (.aload_n 0, 1) := by decide +kernel
theorem dX5_historyAt_2 : decode cX5_historyAt 2 = .ok (.iload_n 1, 1) := by decide +kernel
theorem dX5_historyAt_3 : decode cX5_historyAt 3 = .ok (.invokevirtual 199, 3) := by decide +kernel
theorem dX5_historyAt_6 : decode cX5_historyAt 6 = .ok (.ifCond .ne 7, 3) := by decide +kernel
theorem dX5_historyAt_9 : decode cX5_historyAt 9 = .ok (.iconst 1, 1) := by decide +kernel
theorem dX5_historyAt_10 : decode cX5_historyAt 10 = .ok (.goto 26, 3) := by decide +kernel
theorem dX5_historyAt_13 : decode cX5_historyAt 13 = .ok (.iload_n 2, 1) := by decide +kernel
theorem dX5_historyAt_14 : decode cX5_historyAt 14 = .ok (.i2l, 1) := by decide +kernel
theorem dX5_historyAt_15 : decode cX5_historyAt 15 = .ok (.lconst 0, 1) := by decide +kernel
theorem dX5_historyAt_16 : decode cX5_historyAt 16 = .ok (.aload_n 0, 1) := by decide +kernel
theorem dX5_historyAt_17 : decode cX5_historyAt 17 = .ok (.getfield 25, 3) := by decide +kernel
theorem dX5_historyAt_20 : decode cX5_historyAt 20 = .ok (.iload_n 1, 1) := by decide +kernel
theorem dX5_historyAt_21 : decode cX5_historyAt 21 = .ok (.iaload, 1) := by decide +kernel
theorem dX5_historyAt_22 : decode cX5_historyAt 22 = .ok (.iconst 1, 1) := by decide +kernel
theorem dX5_historyAt_23 : decode cX5_historyAt 23 = .ok (.isub, 1) := by decide +kernel
theorem dX5_historyAt_24 : decode cX5_historyAt 24 = .ok (.i2l, 1) := by decide +kernel
theorem dX5_historyAt_25 : decode cX5_historyAt 25 = .ok (.invokestatic 67, 3) := by decide +kernel
theorem dX5_historyAt_28 : decode cX5_historyAt 28 = .ok (.ifCond .ne 7, 3) := by decide +kernel
theorem dX5_historyAt_31 : decode cX5_historyAt 31 = .ok (.iconst 2, 1) := by decide +kernel
theorem dX5_historyAt_32 : decode cX5_historyAt 32 = .ok (.goto 4, 3) := by decide +kernel
theorem dX5_historyAt_35 : decode cX5_historyAt 35 = .ok (.iconst 0, 1) := by decide +kernel
theorem dX5_historyAt_36 : decode cX5_historyAt 36 = .ok (.putfield 62, 3) := by decide +kernel
theorem dX5_historyAt_39 : decode cX5_historyAt 39 = .ok (.aload_n 0, 1) := by decide +kernel
theorem dX5_historyAt_40 : decode cX5_historyAt 40 = .ok (.getfield 62, 3) := by decide +kernel
theorem dX5_historyAt_43 : decode cX5_historyAt 43 = .ok (.ifCond .ne 14, 3) := by decide +kernel
theorem dX5_historyAt_46 : decode cX5_historyAt 46 = .ok (.aload_n 0, 1) := by decide +kernel
theorem dX5_historyAt_47 : decode cX5_historyAt 47 = .ok (.getfield 21, 3) := by decide +kernel
theorem dX5_historyAt_50 : decode cX5_historyAt 50 = .ok (.iload_n 1, 1) := by decide +kernel
theorem dX5_historyAt_51 : decode cX5_historyAt 51 = .ok (.aaload, 1) := by decide +kernel
theorem dX5_historyAt_52 : decode cX5_historyAt 52 = .ok (.iload_n 2, 1) := by decide +kernel
theorem dX5_historyAt_53 : decode cX5_historyAt 53 = .ok (.caload, 1) := by decide +kernel
theorem dX5_historyAt_54 : decode cX5_historyAt 54 = .ok (.goto 5, 3) := by decide +kernel
theorem dX5_historyAt_57 : decode cX5_historyAt 57 = .ok (.bipush 32, 2) := by decide +kernel
theorem dX5_historyAt_59 : decode cX5_historyAt 59 = .ok (.ireturn, 1) := by decide +kernel
theorem dX5_quality_0 : decode cX5_quality 0 = .ok (.aload_n 0, 1) := by decide +kernel
theorem dX5_quality_1 : decode cX5_quality 1 = .ok (.iload_n 1, 1) := by decide +kernel
theorem dX5_quality_2 : decode cX5_quality 2 = .ok (.invokevirtual 207, 3) := by decide +kernel
theorem dX5_quality_5 : decode cX5_quality 5 = .ok (.ifCond .ne 5, 3) := by decide +kernel
theorem dX5_quality_8 : decode cX5_quality 8 = .ok (.iconst (-1), 1) := by decide +kernel
theorem dX5_quality_9 : decode cX5_quality 9 = .ok (.ireturn, 1) := by decide +kernel
theorem dX5_quality_10 : decode cX5_quality 10 = .ok (.iconst 0, 1) := by decide +kernel
theorem dX5_quality_11 : decode cX5_quality 11 = .ok (.istore_n 2, 1) := by decide +kernel
theorem dX5_quality_12 : decode cX5_quality 12 = .ok (.iconst 0, 1) := by decide +kernel
theorem dX5_quality_13 : decode cX5_quality 13 = .ok (.aload_n 0, 1) := by decide +kernel
theorem dX5_quality_14 : decode cX5_quality 14 = .ok (.getfield 25, 3) := by decide +kernel
theorem dX5_quality_17 : decode cX5_quality 17 = .ok (.iload_n 1, 1) := by decide +kernel
theorem dX5_quality_18 : decode cX5_quality 18 = .ok (.iaload, 1) := by decide +kernel
theorem dX5_quality_19 : decode cX5_quality 19 = .ok (.bipush 8, 2) := by decide +kernel
theorem dX5_quality_21 : decode cX5_quality 21 = .ok (.isub, 1) := by decide +kernel
theorem dX5_quality_22 : decode cX5_quality 22 = .ok (.invokestatic 173, 3) := by decide +kernel
theorem dX5_quality_25 : decode cX5_quality 25 = .ok (.istore_n 3, 1) := by decide +kernel
theorem dX5_quality_26 : decode cX5_quality 26 = .ok (.iload_n 3, 1) := by decide +kernel
theorem dX5_quality_27 : decode cX5_quality 27 = .ok (.aload_n 0, 1) := by decide +kernel
theorem dX5_quality_28 : decode cX5_quality 28 = .ok (.getfield 25, 3) := by decide +kernel
theorem dX5_quality_31 : decode cX5_quality 31 = .ok (.iload_n 1, 1) := by decide +kernel
theorem dX5_quality_32 : decode cX5_quality 32 = .ok (.iaload, 1) := by decide +kernel
theorem dX5_quality_33 : decode cX5_quality 33 = .ok (.if_icmp .ge 43, 3) := by decide +kernel
theorem dX5_quality_36 : decode cX5_quality 36 = .ok (.iload_n 2, 1) := by decide +kernel
theorem dX5_quality_37 : decode cX5_quality 37 = .ok (.aload_n 0, 1) := by decide +kernel
theorem dX5_quality_38 : decode cX5_quality 38 = .ok (.getfield 21, 3) := by decide +kernel
theorem dX5_quality_41 : decode cX5_quality 41 = .ok (.iload_n 1, 1) := by decide +kernel
theorem dX5_quality_42 : decode cX5_quality 42 = .ok (.aaload, 1) := by decide +kernel
theorem dX5_quality_43 : decode cX5_quality 43 = .ok (.iload_n 3, 1) := by decide +kernel
theorem dX5_quality_44 : decode cX5_quality 44 = .ok (.caload, 1) := by decide +kernel
theorem dX5_quality_45 : decode cX5_quality 45 = .ok (.bipush 104, 2) := by decide +kernel
theorem dX5_quality_47 : decode cX5_quality 47 = .ok (.if_icmp .eq 16, 3) := by decide +kernel
theorem dX5_quality_50 : decode cX5_quality 50 = .ok (.aload_n 0, 1) := by decide +kernel
theorem dX5_quality_51 : decode cX5_quality 51 = .ok (.getfield 21, 3) := by decide +kernel
theorem dX5_quality_54 : decode cX5_quality 54 = .ok (.iload_n 1, 1) := by decide +kernel
theorem dX5_quality_55 : decode cX5_quality 55 = .ok (.aaload, 1) := by decide +kernel
theorem dX5_quality_56 : decode cX5_quality 56 = .ok (.iload_n 3, 1) := by decide +kernel
theorem dX5_quality_57 : decode cX5_quality 57 = .ok (.caload, 1) := by decide +kernel
theorem dX5_quality_58 : decode cX5_quality 58 = .ok (.bipush 110, 2) := by decide +kernel
theorem dX5_quality_60 : decode cX5_quality 60 = .ok (.if_icmp .ne 7, 3) := by decide +kernel
theorem dX5_quality_63 : decode cX5_quality 63 = .ok (.iconst 1, 1) := by decide +kernel
theorem dX5_quality_64 : decode cX5_quality 64 = .ok (.goto 4, 3) := by decide +kernel
theorem dX5_quality_67 : decode cX5_quality 67 = .ok (.iconst 0, 1) := by decide +kernel
theorem dX5_quality_68 : decode cX5_quality 68 = .ok (.iadd, 1) := by decide +kernel
theorem dX5_quality_69 : decode cX5_quality 69 = .ok (.istore_n 2, 1) := by decide +kernel
theorem dX5_quality_70 : decode cX5_quality 70 = .ok (.iinc 3 1, 3) := by decide +kernel
theorem dX5_quality_73 : decode cX5_quality 73 = .ok (.goto (-47), 3) := by decide +kernel
theorem dX5_quality_76 : decode cX5_quality 76 = .ok (.iload_n 2, 1) := by decide +kernel
theorem dX5_quality_77 : decode cX5_quality 77 = .ok (.ireturn, 1) := by decide +kernel
theorem dX5_count_0 : decode cX5_count 0 = .ok (.iconst 0, 1) := by decide +kernel
theorem dX5_count_1 : decode cX5_count 1 = .ok (.istore_n 2, 1) := by decide +kernel
theorem dX5_count_2 : decode cX5_count 2 = .ok (.iconst 0, 1) := by decide +kernel
theorem dX5_count_3 : decode cX5_count 3 = .ok (.istore_n 3, 1) := by decide +kernel
theorem dX5_count_4 : decode cX5_count 4 = .ok (.iload_n 3, 1) := by decide +kernel
theorem dX5_count_5 : decode cX5_count 5 = .ok (.aload_n 0, 1) := by decide +kernel
theorem dX5_count_6 : decode cX5_count 6 = .ok (.getfield 71, 3) := by decide +kernel
theorem dX5_count_9 : decode cX5_count 9 = .ok (.if_icmp .ge 50, 3) := by decide +kernel
theorem dX5_count_12 : decode cX5_count 12 = .ok (.iconst 0, 1) := by decide +kernel
theorem dX5_count_13 : decode cX5_count 13 = .ok (.istore 4, 2) := by decide +kernel
theorem dX5_count_15 : decode cX5_count 15 = .ok (.iload 4, 2) := by decide +kernel
theorem dX5_count_17 : decode cX5_count 17 = .ok (.aload_n 0, 1) := by decide +kernel
theorem dX5_count_18 : decode cX5_count 18 = .ok (.getfield 25, 3) := by decide +kernel
theorem dX5_count_21 : decode cX5_count 21 = .ok (.iload_n 3, 1) := by decide +kernel
theorem dX5_count_22 : decode cX5_count 22 = .ok (.iaload, 1) := by decide +kernel
theorem dX5_count_23 : decode cX5_count 23 = .ok (.if_icmp .ge 30, 3) := by decide +kernel
theorem dX5_count_26 : decode cX5_count 26 = .ok (.iload_n 2, 1) := by decide +kernel
theorem dX5_count_27 : decode cX5_count 27 = .ok (.aload_n 0, 1) := by decide +kernel
theorem dX5_count_28 : decode cX5_count 28 = .ok (.getfield 21, 3) := by decide +kernel
theorem dX5_count_31 : decode cX5_count 31 = .ok (.iload_n 3, 1) := by decide +kernel
theorem dX5_count_32 : decode cX5_count 32 = .ok (.aaload, 1) := by decide +kernel
theorem dX5_count_33 : decode cX5_count 33 = .ok (.iload 4, 2) := by decide +kernel
theorem dX5_count_35 : decode cX5_count 35 = .ok (.caload, 1) := by decide +kernel
theorem dX5_count_36 : decode cX5_count 36 = .ok (.iload_n 1, 1) := by decide +kernel
theorem dX5_count_37 : decode cX5_count 37 = .ok (.if_icmp .ne 7, 3) := by decide +kernel
theorem dX5_count_40 : decode cX5_count 40 = .ok (.iconst 1, 1) := by decide +kernel
theorem dX5_count_41 : decode cX5_count 41 = .ok (.goto 4, 3) := by decide +kernel
theorem dX5_count_44 : decode cX5_count 44 = .ok (.iconst 0, 1) := by decide +kernel
theorem dX5_count_45 : decode cX5_count 45 = .ok (.iadd, 1) := by decide +kernel
theorem dX5_count_46 : decode cX5_count 46 = .ok (.istore_n 2, 1) := by decide +kernel
theorem dX5_count_47 : decode cX5_count 47 = .ok (.iinc 4 1, 3) := by decide +kernel
theorem dX5_count_50 : decode cX5_count 50 = .ok (.goto (-35), 3) := by decide +kernel
theorem dX5_count_53 : decode cX5_count 53 = .ok (.iinc 3 1, 3) := by decide +kernel
theorem dX5_count_56 : decode cX5_count 56 = .ok (.goto (-52), 3) := by decide +kernel
theorem dX5_count_59 : decode cX5_count 59 = .ok (.iload_n 2, 1) := by decide +kernel
theorem dX5_count_60 : decode cX5_count 60 = .ok (.ireturn, 1) := by decide +kernel
theorem dX5_countOf_0 : decode cX5_countOf 0 = .ok (.iload_n 1, 1) := by decide +kernel
theorem dX5_countOf_1 : decode cX5_countOf 1 = .ok (.bipush 110, 2) := by decide +kernel
theorem dX5_countOf_3 : decode cX5_countOf 3 = .ok (.if_icmp .eq 33, 3) := by decide +kernel
theorem dX5_countOf_6 : decode cX5_countOf 6 = .ok (.iload_n 1, 1) := by decide +kernel
theorem dX5_countOf_7 : decode cX5_countOf 7 = .ok (.bipush 104, 2) := by decide +kernel
theorem dX5_countOf_9 : decode cX5_countOf 9 = .ok (.if_icmp .eq 27, 3) := by decide +kernel
theorem dX5_countOf_12 : decode cX5_countOf 12 = .ok (.iload_n 1, 1) := by decide +kernel
theorem dX5_countOf_13 : decode cX5_countOf 13 = .ok (.bipush 120, 2) := by decide +kernel
theorem dX5_countOf_15 : decode cX5_countOf 15 = .ok (.if_icmp .eq 21, 3) := by decide +kernel
theorem dX5_countOf_18 : decode cX5_countOf 18 = .ok (.iload_n 1, 1) := by decide +kernel
theorem dX5_countOf_19 : decode cX5_countOf 19 = .ok (.bipush 108, 2) := by decide +kernel
theorem dX5_countOf_21 : decode cX5_countOf 21 = .ok (.if_icmp .eq 15, 3) := by decide +kernel
theorem dX5_countOf_24 : decode cX5_countOf 24 = .ok (.iload_n 1, 1) := by decide +kernel
theorem dX5_countOf_25 : decode cX5_countOf 25 = .ok (.bipush 109, 2) := by decide +kernel
theorem dX5_countOf_27 : decode cX5_countOf 27 = .ok (.if_icmp .eq 9, 3) := by decide +kernel
theorem dX5_countOf_30 : decode cX5_countOf 30 = .ok (.iload_n 1, 1) := by decide +kernel
theorem dX5_countOf_31 : decode cX5_countOf 31 = .ok (.bipush 103, 2) := by decide +kernel
theorem dX5_countOf_33 : decode cX5_countOf 33 = .ok (.if_icmp .ne 7, 3) := by decide +kernel
theorem dX5_countOf_36 : decode cX5_countOf 36 = .ok (.iconst 1, 1) := by decide +kernel
theorem dX5_countOf_37 : decode cX5_countOf 37 = .ok (.goto 4, 3) := by decide +kernel
theorem dX5_countOf_40 : decode cX5_countOf 40 = .ok (.iconst 0, 1) := by decide +kernel
theorem dX5_countOf_41 : decode cX5_countOf 41 = .ok (.istore_n 2, 1) := by decide +kernel
theorem dX5_countOf_42 : decode cX5_countOf 42 = .ok (.aload_n 0, 1) := by decide +kernel
theorem dX5_countOf_43 : decode cX5_countOf 43 = .ok (.iload_n 2, 1) := by decide +kernel
theorem dX5_countOf_44 : decode cX5_countOf 44 = .ok (.ifCond .eq 7, 3) := by decide +kernel
theorem dX5_countOf_47 : decode cX5_countOf 47 = .ok (.iconst 0, 1) := by decide +kernel
theorem dX5_countOf_48 : decode cX5_countOf 48 = .ok (.goto 4, 3) := by decide +kernel
theorem dX5_countOf_51 : decode cX5_countOf 51 = .ok (.iconst 1, 1) := by decide +kernel
theorem dX5_countOf_52 : decode cX5_countOf 52 = .ok (.putfield 62, 3) := by decide +kernel
theorem dX5_countOf_55 : decode cX5_countOf 55 = .ok (.aload_n 0, 1) := by decide +kernel
theorem dX5_countOf_56 : decode cX5_countOf 56 = .ok (.getfield 62, 3) := by decide +kernel
theorem dX5_countOf_59 : decode cX5_countOf 59 = .ok (.ifCond .ne 11, 3) := by decide +kernel
theorem dX5_countOf_62 : decode cX5_countOf 62 = .ok (.aload_n 0, 1) := by decide +kernel
theorem dX5_countOf_63 : decode cX5_countOf 63 = .ok (.iload_n 1, 1) := by decide +kernel
theorem dX5_countOf_64 : decode cX5_countOf 64 = .ok (.invokevirtual 219, 3) := by decide +kernel
theorem dX5_countOf_67 : decode cX5_countOf 67 = .ok (.goto 4, 3) := by decide +kernel
theorem dX5_countOf_70 : decode cX5_countOf 70 = .ok (.iconst (-1), 1) := by decide +kernel
theorem dX5_countOf_71 : decode cX5_countOf 71 = .ok (.ireturn, 1) := by decide +kernel
theorem dX5_farness_0 : decode cX5_farness 0 = .ok (.ldc2_w 97, 3) := by decide +kernel
theorem dX5_farness_3 : decode cX5_farness 3 = .ok (.iload_n 3, 1) := by decide +kernel
theorem dX5_farness_4 : decode cX5_farness 4 = .ok (.i2l, 1) := by decide +kernel
theorem dX5_farness_5 : decode cX5_farness 5 = .ok (.lmul, 1) := by decide +kernel
theorem dX5_farness_6 : decode cX5_farness 6 = .ok (.aload_n 0, 1) := by decide +kernel
theorem dX5_farness_7 : decode cX5_farness 7 = .ok (.iload_n 1, 1) := by decide +kernel
theorem dX5_farness_8 : decode cX5_farness 8 = .ok (.iload_n 2, 1) := by decide +kernel
theorem dX5_farness_9 : decode cX5_farness 9 = .ok (.iconst 0, 1) := by decide +kernel
theorem dX5_farness_10 : decode cX5_farness 10 = .ok (.invokevirtual 114, 3) := by decide +kernel
theorem dX5_farness_13 : decode cX5_farness 13 = .ok (.lsub, 1) := by decide +kernel
theorem dX5_farness_14 : decode cX5_farness 14 = .ok (.lstore 5, 2) := by decide +kernel
theorem dX5_farness_16 : decode cX5_farness 16 = .ok (.ldc2_w 97, 3) := by decide +kernel
theorem dX5_farness_19 : decode cX5_farness 19 = .ok (.iload 4, 2) := by decide +kernel
theorem dX5_farness_21 : decode cX5_farness 21 = .ok (.i2l, 1) := by decide +kernel
theorem dX5_farness_22 : decode cX5_farness 22 = .ok (.lmul, 1) := by decide +kernel
theorem dX5_farness_23 : decode cX5_farness 23 = .ok (.aload_n 0, 1) := by decide +kernel
theorem dX5_farness_24 : decode cX5_farness 24 = .ok (.iload_n 1, 1) := by decide +kernel
theorem dX5_farness_25 : decode cX5_farness 25 = .ok (.iload_n 2, 1) := by decide +kernel
theorem dX5_farness_26 : decode cX5_farness 26 = .ok (.iconst 1, 1) := by decide +kernel
theorem dX5_farness_27 : decode cX5_farness 27 = .ok (.invokevirtual 114, 3) := by decide +kernel
theorem dX5_farness_30 : decode cX5_farness 30 = .ok (.lsub, 1) := by decide +kernel
theorem dX5_farness_31 : decode cX5_farness 31 = .ok (.lstore 7, 2) := by decide +kernel
theorem dX5_farness_33 : decode cX5_farness 33 = .ok (.lload 5, 2) := by decide +kernel
theorem dX5_farness_35 : decode cX5_farness 35 = .ok (.lload 5, 2) := by decide +kernel
theorem dX5_farness_37 : decode cX5_farness 37 = .ok (.lmul, 1) := by decide +kernel
theorem dX5_farness_38 : decode cX5_farness 38 = .ok (.lload 7, 2) := by decide +kernel
theorem dX5_farness_40 : decode cX5_farness 40 = .ok (.lload 7, 2) := by decide +kernel
theorem dX5_farness_42 : decode cX5_farness 42 = .ok (.lmul, 1) := by decide +kernel
theorem dX5_farness_43 : decode cX5_farness 43 = .ok (.ladd, 1) := by decide +kernel
theorem dX5_farness_44 : decode cX5_farness 44 = .ok (.lreturn, 1) := by decide +kernel
theorem dX5_nearest_0 : decode cX5_nearest 0 = .ok (.iconst (-1), 1) := by decide +kernel
theorem dX5_nearest_1 : decode cX5_nearest 1 = .ok (.istore 4, 2) := by decide +kernel
theorem dX5_nearest_3 : decode cX5_nearest 3 = .ok (.aload_n 0, 1) := by decide +kernel
theorem dX5_nearest_4 : decode cX5_nearest 4 = .ok (.getfield 71, 3) := by decide +kernel
theorem dX5_nearest_7 : decode cX5_nearest 7 = .ok (.iconst 1, 1) := by decide +kernel
theorem dX5_nearest_8 : decode cX5_nearest 8 = .ok (.isub, 1) := by decide +kernel
theorem dX5_nearest_9 : decode cX5_nearest 9 = .ok (.istore 5, 2) := by decide +kernel
theorem dX5_nearest_11 : decode cX5_nearest 11 = .ok (.iload 5, 2) := by decide +kernel
theorem dX5_nearest_13 : decode cX5_nearest 13 = .ok (.ifCond .lt 67, 3) := by decide +kernel
theorem dX5_nearest_16 : decode cX5_nearest 16 = .ok (.aload_n 0, 1) := by decide +kernel
theorem dX5_nearest_17 : decode cX5_nearest 17 = .ok (.iload 5, 2) := by decide +kernel
theorem dX5_nearest_19 : decode cX5_nearest 19 = .ok (.invokevirtual 123, 3) := by decide +kernel
theorem dX5_nearest_22 : decode cX5_nearest 22 = .ok (.ifCond .eq 35, 3) := by decide +kernel
theorem dX5_nearest_25 : decode cX5_nearest 25 = .ok (.iload 4, 2) := by decide +kernel
theorem dX5_nearest_27 : decode cX5_nearest 27 = .ok (.iconst (-1), 1) := by decide +kernel
theorem dX5_nearest_28 : decode cX5_nearest 28 = .ok (.if_icmp .eq 25, 3) := by decide +kernel
theorem dX5_nearest_31 : decode cX5_nearest 31 = .ok (.aload_n 0, 1) := by decide +kernel
theorem dX5_nearest_32 : decode cX5_nearest 32 = .ok (.iload 5, 2) := by decide +kernel
theorem dX5_nearest_34 : decode cX5_nearest 34 = .ok (.iload_n 1, 1) := by decide +kernel
theorem dX5_nearest_35 : decode cX5_nearest 35 = .ok (.iload_n 2, 1) := by decide +kernel
theorem dX5_nearest_36 : decode cX5_nearest 36 = .ok (.iload_n 3, 1) := by decide +kernel
theorem dX5_nearest_37 : decode cX5_nearest 37 = .ok (.invokevirtual 223, 3) := by decide +kernel
theorem dX5_nearest_40 : decode cX5_nearest 40 = .ok (.aload_n 0, 1) := by decide +kernel
theorem dX5_nearest_41 : decode cX5_nearest 41 = .ok (.iload 4, 2) := by decide +kernel
theorem dX5_nearest_43 : decode cX5_nearest 43 = .ok (.iload_n 1, 1) := by decide +kernel
theorem dX5_nearest_44 : decode cX5_nearest 44 = .ok (.iload_n 2, 1) := by decide +kernel
theorem dX5_nearest_45 : decode cX5_nearest 45 = .ok (.iload_n 3, 1) := by decide +kernel
theorem dX5_nearest_46 : decode cX5_nearest 46 = .ok (.invokevirtual 223, 3) := by decide +kernel
theorem dX5_nearest_49 : decode cX5_nearest 49 = .ok (.lcmp, 1) := by decide +kernel
theorem dX5_nearest_50 : decode cX5_nearest 50 = .ok (.ifCond .gt 7, 3) := by decide +kernel
theorem dX5_nearest_53 : decode cX5_nearest 53 = .ok (.iconst 1, 1) := by decide +kernel
theorem dX5_nearest_54 : decode cX5_nearest 54 = .ok (.goto 4, 3) := by decide +kernel
theorem dX5_nearest_57 : decode cX5_nearest 57 = .ok (.iconst 0, 1) := by decide +kernel
theorem dX5_nearest_58 : decode cX5_nearest 58 = .ok (.istore 6, 2) := by decide +kernel
theorem dX5_nearest_60 : decode cX5_nearest 60 = .ok (.iload 6, 2) := by decide +kernel
theorem dX5_nearest_62 : decode cX5_nearest 62 = .ok (.ifCond .eq 8, 3) := by decide +kernel
theorem dX5_nearest_65 : decode cX5_nearest 65 = .ok (.iload 5, 2) := by decide +kernel
theorem dX5_nearest_67 : decode cX5_nearest 67 = .ok (.goto 5, 3) := by decide +kernel
theorem dX5_nearest_70 : decode cX5_nearest 70 = .ok (.iload 4, 2) := by decide +kernel
theorem dX5_nearest_72 : decode cX5_nearest 72 = .ok (.istore 4, 2) := by decide +kernel
theorem dX5_nearest_74 : decode cX5_nearest 74 = .ok (.iinc 5 (-1), 3) := by decide +kernel
theorem dX5_nearest_77 : decode cX5_nearest 77 = .ok (.goto (-66), 3) := by decide +kernel
theorem dX5_nearest_80 : decode cX5_nearest 80 = .ok (.aload_n 0, 1) := by decide +kernel
theorem dX5_nearest_81 : decode cX5_nearest 81 = .ok (.iload_n 1, 1) := by decide +kernel
theorem dX5_nearest_82 : decode cX5_nearest 82 = .ok (.invokestatic 214, 3) := by decide +kernel
theorem dX5_nearest_85 : decode cX5_nearest 85 = .ok (.ifCond .eq 11, 3) := by decide +kernel
theorem dX5_nearest_88 : decode cX5_nearest 88 = .ok (.iload_n 2, 1) := by decide +kernel
theorem dX5_nearest_89 : decode cX5_nearest 89 = .ok (.iload_n 3, 1) := by decide +kernel
theorem dX5_nearest_90 : decode cX5_nearest 90 = .ok (.invokestatic 107, 3) := by decide +kernel
theorem dX5_nearest_93 : decode cX5_nearest 93 = .ok (.ifCond .ne 7, 3) := by decide +kernel
theorem dX5_nearest_96 : decode cX5_nearest 96 = .ok (.iconst 1, 1) := by decide +kernel
theorem dX5_nearest_97 : decode cX5_nearest 97 = .ok (.goto 14, 3) := by decide +kernel
theorem dX5_nearest_100 : decode cX5_nearest 100 = .ok (.iload 4, 2) := by decide +kernel
theorem dX5_nearest_102 : decode cX5_nearest 102 = .ok (.iconst (-1), 1) := by decide +kernel
theorem dX5_nearest_103 : decode cX5_nearest 103 = .ok (.if_icmp .ne 7, 3) := by decide +kernel
theorem dX5_nearest_106 : decode cX5_nearest 106 = .ok (.iconst 2, 1) := by decide +kernel
theorem dX5_nearest_107 : decode cX5_nearest 107 = .ok (.goto 4, 3) := by decide +kernel
theorem dX5_nearest_110 : decode cX5_nearest 110 = .ok (.iconst 0, 1) := by decide +kernel
theorem dX5_nearest_111 : decode cX5_nearest 111 = .ok (.putfield 62, 3) := by decide +kernel
theorem dX5_nearest_114 : decode cX5_nearest 114 = .ok (.aload_n 0, 1) := by decide +kernel
theorem dX5_nearest_115 : decode cX5_nearest 115 = .ok (.getfield 62, 3) := by decide +kernel
theorem dX5_nearest_118 : decode cX5_nearest 118 = .ok (.ifCond .ne 8, 3) := by decide +kernel
theorem dX5_nearest_121 : decode cX5_nearest 121 = .ok (.iload 4, 2) := by decide +kernel
theorem dX5_nearest_123 : decode cX5_nearest 123 = .ok (.goto 4, 3) := by decide +kernel
theorem dX5_nearest_126 : decode cX5_nearest 126 = .ok (.iconst (-1), 1) := by decide +kernel
theorem dX5_nearest_127 : decode cX5_nearest 127 = .ok (.ireturn, 1) := by decide +kernel
theorem dX5_dropped_0 : decode cX5_dropped 0 = .ok (.aload_n 0, 1) := by decide +kernel
theorem dX5_dropped_1 : decode cX5_dropped 1 = .ok (.iconst 0, 1) := by decide +kernel
theorem dX5_dropped_2 : decode cX5_dropped 2 = .ok (.putfield 62, 3) := by decide +kernel
theorem dX5_dropped_5 : decode cX5_dropped 5 = .ok (.aload_n 0, 1) := by decide +kernel
theorem dX5_dropped_6 : decode cX5_dropped 6 = .ok (.getfield 170, 3) := by decide +kernel
theorem dX5_dropped_9 : decode cX5_dropped 9 = .ok (.ireturn, 1) := by decide +kernel
theorem dX5_isBalanced_0 : decode cX5_isBalanced 0 = .ok (.aload_n 0, 1) := by decide +kernel
theorem dX5_isBalanced_1 : decode cX5_isBalanced 1 = .ok (.iconst 0, 1) := by decide +kernel
theorem dX5_isBalanced_2 : decode cX5_isBalanced 2 = .ok (.putfield 62, 3) := by decide +kernel
theorem dX5_isBalanced_5 : decode cX5_isBalanced 5 = .ok (.iconst 1, 1) := by decide +kernel
theorem dX5_isBalanced_6 : decode cX5_isBalanced 6 = .ok (.ireturn, 1) := by decide +kernel
theorem dX5_takenShare_0 : decode cX5_takenShare 0 = .ok (.aload_n 0, 1) := by decide +kernel
theorem dX5_takenShare_1 : decode cX5_takenShare 1 = .ok (.aload_n 0, 1) := by decide +kernel
theorem dX5_takenShare_2 : decode cX5_takenShare 2 = .ok (.getfield 196, 3) := by decide +kernel
theorem dX5_takenShare_5 : decode cX5_takenShare 5 = .ok (.ifCond .ne 7, 3) := by decide +kernel
theorem dX5_takenShare_8 : decode cX5_takenShare 8 = .ok (.iconst 1, 1) := by decide +kernel
theorem dX5_takenShare_9 : decode cX5_takenShare 9 = .ok (.goto 4, 3) := by decide +kernel
theorem dX5_takenShare_12 : decode cX5_takenShare 12 = .ok (.iconst 0, 1) := by decide +kernel
theorem dX5_takenShare_13 : decode cX5_takenShare 13 = .ok (.putfield 62, 3) := by decide +kernel
theorem dX5_takenShare_16 : decode cX5_takenShare 16 = .ok (.aload_n 0, 1) := by decide +kernel
theorem dX5_takenShare_17 : decode cX5_takenShare 17 = .ok (.getfield 62, 3) := by decide +kernel
theorem dX5_takenShare_20 : decode cX5_takenShare 20 = .ok (.ifCond .ne 19, 3) := by decide +kernel
theorem dX5_takenShare_23 : decode cX5_takenShare 23 = .ok (.aload_n 0, 1) := by decide +kernel
theorem dX5_takenShare_24 : decode cX5_takenShare 24 = .ok (.bipush 104, 2) := by decide +kernel
theorem dX5_takenShare_26 : decode cX5_takenShare 26 = .ok (.invokevirtual 219, 3) := by decide +kernel
theorem dX5_takenShare_29 : decode cX5_takenShare 29 = .ok (.i2f, 1) := by decide +kernel
theorem dX5_takenShare_30 : decode cX5_takenShare 30 = .ok (.aload_n 0, 1) := by decide +kernel
theorem dX5_takenShare_31 : decode cX5_takenShare 31 = .ok (.getfield 196, 3) := by decide +kernel
theorem dX5_takenShare_34 : decode cX5_takenShare 34 = .ok (.i2f, 1) := by decide +kernel
theorem dX5_takenShare_35 : decode cX5_takenShare 35 = .ok (.fdiv, 1) := by decide +kernel
theorem dX5_takenShare_36 : decode cX5_takenShare 36 = .ok (.goto 4, 3) := by decide +kernel
theorem dX5_takenShare_39 : decode cX5_takenShare 39 = .ok (.fconst 0, 1) := by decide +kernel
theorem dX5_takenShare_40 : decode cX5_takenShare 40 = .ok (.freturn, 1) := by decide +kernel
theorem dX5_meanHits_0 : decode cX5_meanHits 0 = .ok (.iconst 0, 1) := by decide +kernel
theorem dX5_meanHits_1 : decode cX5_meanHits 1 = .ok (.istore_n 1, 1) := by decide +kernel
theorem dX5_meanHits_2 : decode cX5_meanHits 2 = .ok (.iconst 0, 1) := by decide +kernel
theorem dX5_meanHits_3 : decode cX5_meanHits 3 = .ok (.istore_n 2, 1) := by decide +kernel
theorem dX5_meanHits_4 : decode cX5_meanHits 4 = .ok (.iload_n 2, 1) := by decide +kernel
theorem dX5_meanHits_5 : decode cX5_meanHits 5 = .ok (.aload_n 0, 1) := by decide +kernel
theorem dX5_meanHits_6 : decode cX5_meanHits 6 = .ok (.getfield 71, 3) := by decide +kernel
theorem dX5_meanHits_9 : decode cX5_meanHits 9 = .ok (.if_icmp .ge 30, 3) := by decide +kernel
theorem dX5_meanHits_12 : decode cX5_meanHits 12 = .ok (.iload_n 1, 1) := by decide +kernel
theorem dX5_meanHits_13 : decode cX5_meanHits 13 = .ok (.aload_n 0, 1) := by decide +kernel
theorem dX5_meanHits_14 : decode cX5_meanHits 14 = .ok (.iload_n 2, 1) := by decide +kernel
theorem dX5_meanHits_15 : decode cX5_meanHits 15 = .ok (.invokevirtual 123, 3) := by decide +kernel
theorem dX5_meanHits_18 : decode cX5_meanHits 18 = .ok (.ifCond .eq 12, 3) := by decide +kernel
theorem dX5_meanHits_21 : decode cX5_meanHits 21 = .ok (.aload_n 0, 1) := by decide +kernel
theorem dX5_meanHits_22 : decode cX5_meanHits 22 = .ok (.iload_n 2, 1) := by decide +kernel
theorem dX5_meanHits_23 : decode cX5_meanHits 23 = .ok (.iconst 5, 1) := by decide +kernel
theorem dX5_meanHits_24 : decode cX5_meanHits 24 = .ok (.invokevirtual 74, 3) := by decide +kernel
theorem dX5_meanHits_27 : decode cX5_meanHits 27 = .ok (.goto 4, 3) := by decide +kernel
theorem dX5_meanHits_30 : decode cX5_meanHits 30 = .ok (.iconst 0, 1) := by decide +kernel
theorem dX5_meanHits_31 : decode cX5_meanHits 31 = .ok (.iadd, 1) := by decide +kernel
theorem dX5_meanHits_32 : decode cX5_meanHits 32 = .ok (.istore_n 1, 1) := by decide +kernel
theorem dX5_meanHits_33 : decode cX5_meanHits 33 = .ok (.iinc 2 1, 3) := by decide +kernel
theorem dX5_meanHits_36 : decode cX5_meanHits 36 = .ok (.goto (-32), 3) := by decide +kernel
theorem dX5_meanHits_39 : decode cX5_meanHits 39 = .ok (.aload_n 0, 1) := by decide +kernel
theorem dX5_meanHits_40 : decode cX5_meanHits 40 = .ok (.aload_n 0, 1) := by decide +kernel
theorem dX5_meanHits_41 : decode cX5_meanHits 41 = .ok (.invokevirtual 166, 3) := by decide +kernel
theorem dX5_meanHits_44 : decode cX5_meanHits 44 = .ok (.ifCond .ne 7, 3) := by decide +kernel
theorem dX5_meanHits_47 : decode cX5_meanHits 47 = .ok (.iconst 1, 1) := by decide +kernel
theorem dX5_meanHits_48 : decode cX5_meanHits 48 = .ok (.goto 4, 3) := by decide +kernel
theorem dX5_meanHits_51 : decode cX5_meanHits 51 = .ok (.iconst 0, 1) := by decide +kernel
theorem dX5_meanHits_52 : decode cX5_meanHits 52 = .ok (.putfield 62, 3) := by decide +kernel
theorem dX5_meanHits_55 : decode cX5_meanHits 55 = .ok (.aload_n 0, 1) := by decide +kernel
theorem dX5_meanHits_56 : decode cX5_meanHits 56 = .ok (.getfield 62, 3) := by decide +kernel
theorem dX5_meanHits_59 : decode cX5_meanHits 59 = .ok (.ifCond .ne 14, 3) := by decide +kernel
theorem dX5_meanHits_62 : decode cX5_meanHits 62 = .ok (.iload_n 1, 1) := by decide +kernel
theorem dX5_meanHits_63 : decode cX5_meanHits 63 = .ok (.i2d, 1) := by decide +kernel
theorem dX5_meanHits_64 : decode cX5_meanHits 64 = .ok (.aload_n 0, 1) := by decide +kernel
theorem dX5_meanHits_65 : decode cX5_meanHits 65 = .ok (.invokevirtual 166, 3) := by decide +kernel
theorem dX5_meanHits_68 : decode cX5_meanHits 68 = .ok (.i2d, 1) := by decide +kernel
theorem dX5_meanHits_69 : decode cX5_meanHits 69 = .ok (.ddiv, 1) := by decide +kernel
theorem dX5_meanHits_70 : decode cX5_meanHits 70 = .ok (.goto 4, 3) := by decide +kernel
theorem dX5_meanHits_73 : decode cX5_meanHits 73 = .ok (.dconst 0, 1) := by decide +kernel
theorem dX5_meanHits_74 : decode cX5_meanHits 74 = .ok (.dreturn, 1) := by decide +kernel
end
section
theorem dJx00060_init_a7421_0 : decode cJx00060_init_a7421 0 = .ok (.aload_n 0, 1) := by decide +kernel
theorem dJx00060_init_a7421_1 : decode cJx00060_init_a7421 1 = .ok (.aload_n 1, 1) := by decide +kernel
theorem dJx00060_init_a7421_2 : decode cJx00060_init_a7421 2 = .ok (.invokespecial 7, 3) := by decide +kernel
theorem dJx00060_init_a7421_5 : decode cJx00060_init_a7421 5 = .ok (.return_, 1) := by decide +kernel
theorem dJ11_isValidCodePoint_9a6ad_0 : decode cJ11_isValidCodePoint_9a6ad 0 = .ok (.iload_n 0, 1) := by decide +kernel
theorem dJ11_isValidCodePoint_9a6ad_1 : decode cJ11_isValidCodePoint_9a6ad 1 = .ok (.bipush 16, 2) := by decide +kernel
theorem dJ11_isValidCodePoint_9a6ad_3 : decode cJ11_isValidCodePoint_9a6ad 3 = .ok (.iushr, 1) := by decide +kernel
theorem dJ11_isValidCodePoint_9a6ad_4 : decode cJ11_isValidCodePoint_9a6ad 4 = .ok (.istore_n 1, 1) := by decide +kernel
theorem dJ11_isValidCodePoint_9a6ad_5 : decode cJ11_isValidCodePoint_9a6ad 5 = .ok (.iload_n 1, 1) := by decide +kernel
theorem dJ11_isValidCodePoint_9a6ad_6 : decode cJ11_isValidCodePoint_9a6ad 6 = .ok (.bipush 17, 2) := by decide +kernel
theorem dJ11_isValidCodePoint_9a6ad_8 : decode cJ11_isValidCodePoint_9a6ad 8 = .ok (.if_icmp .ge 7, 3) := by decide +kernel
theorem dJ11_isValidCodePoint_9a6ad_11 : decode cJ11_isValidCodePoint_9a6ad 11 = .ok (.iconst 1, 1) := by decide +kernel
theorem dJ11_isValidCodePoint_9a6ad_12 : decode cJ11_isValidCodePoint_9a6ad 12 = .ok (.goto 4, 3) := by decide +kernel
theorem dJ11_isValidCodePoint_9a6ad_15 : decode cJ11_isValidCodePoint_9a6ad 15 = .ok (.iconst 0, 1) := by decide +kernel
theorem dJ11_isValidCodePoint_9a6ad_16 : decode cJ11_isValidCodePoint_9a6ad 16 = .ok (.ireturn, 1) := by decide +kernel
theorem dJ11_highSurrogate_5068e_0 : decode cJ11_highSurrogate_5068e 0 = .ok (.iload_n 0, 1) := by decide +kernel
theorem dJ11_highSurrogate_5068e_1 : decode cJ11_highSurrogate_5068e 1 = .ok (.bipush 10, 2) := by decide +kernel
theorem dJ11_highSurrogate_5068e_3 : decode cJ11_highSurrogate_5068e 3 = .ok (.iushr, 1) := by decide +kernel
theorem dJ11_highSurrogate_5068e_4 : decode cJ11_highSurrogate_5068e 4 = .ok (.ldc 110, 2) := by decide +kernel
theorem dJ11_highSurrogate_5068e_6 : decode cJ11_highSurrogate_5068e 6 = .ok (.iadd, 1) := by decide +kernel
theorem dJ11_highSurrogate_5068e_7 : decode cJ11_highSurrogate_5068e 7 = .ok (.i2c, 1) := by decide +kernel
theorem dJ11_highSurrogate_5068e_8 : decode cJ11_highSurrogate_5068e 8 = .ok (.ireturn, 1) := by decide +kernel
theorem dJ11_lowSurrogate_5068e_0 : decode cJ11_lowSurrogate_5068e 0 = .ok (.iload_n 0, 1) := by decide +kernel
theorem dJ11_lowSurrogate_5068e_1 : decode cJ11_lowSurrogate_5068e 1 = .ok (.sipush 1023, 3) := by decide +kernel
theorem dJ11_lowSurrogate_5068e_4 : decode cJ11_lowSurrogate_5068e 4 = .ok (.iand, 1) := by decide +kernel
theorem dJ11_lowSurrogate_5068e_5 : decode cJ11_lowSurrogate_5068e 5 = .ok (.ldc 76, 2) := by decide +kernel
theorem dJ11_lowSurrogate_5068e_7 : decode cJ11_lowSurrogate_5068e 7 = .ok (.iadd, 1) := by decide +kernel
theorem dJ11_lowSurrogate_5068e_8 : decode cJ11_lowSurrogate_5068e 8 = .ok (.i2c, 1) := by decide +kernel
theorem dJ11_lowSurrogate_5068e_9 : decode cJ11_lowSurrogate_5068e 9 = .ok (.ireturn, 1) := by decide +kernel
theorem dJ9_floorDiv_7cf53_0 : decode cJ9_floorDiv_7cf53 0 = .ok (.iload_n 0, 1) := by decide +kernel
theorem dJ9_floorDiv_7cf53_1 : decode cJ9_floorDiv_7cf53 1 = .ok (.iload_n 1, 1) := by decide +kernel
theorem dJ9_floorDiv_7cf53_2 : decode cJ9_floorDiv_7cf53 2 = .ok (.idiv, 1) := by decide +kernel
theorem dJ9_floorDiv_7cf53_3 : decode cJ9_floorDiv_7cf53 3 = .ok (.istore_n 2, 1) := by decide +kernel
theorem dJ9_floorDiv_7cf53_4 : decode cJ9_floorDiv_7cf53 4 = .ok (.iload_n 0, 1) := by decide +kernel
theorem dJ9_floorDiv_7cf53_5 : decode cJ9_floorDiv_7cf53 5 = .ok (.iload_n 1, 1) := by decide +kernel
theorem dJ9_floorDiv_7cf53_6 : decode cJ9_floorDiv_7cf53 6 = .ok (.ixor, 1) := by decide +kernel
theorem dJ9_floorDiv_7cf53_7 : decode cJ9_floorDiv_7cf53 7 = .ok (.ifCond .ge 14, 3) := by decide +kernel
theorem dJ9_floorDiv_7cf53_10 : decode cJ9_floorDiv_7cf53 10 = .ok (.iload_n 2, 1) := by decide +kernel
theorem dJ9_floorDiv_7cf53_11 : decode cJ9_floorDiv_7cf53 11 = .ok (.iload_n 1, 1) := by decide +kernel
theorem dJ9_floorDiv_7cf53_12 : decode cJ9_floorDiv_7cf53 12 = .ok (.imul, 1) := by decide +kernel
theorem dJ9_floorDiv_7cf53_13 : decode cJ9_floorDiv_7cf53 13 = .ok (.iload_n 0, 1) := by decide +kernel
theorem dJ9_floorDiv_7cf53_14 : decode cJ9_floorDiv_7cf53 14 = .ok (.if_icmp .eq 7, 3) := by decide +kernel
theorem dJ9_floorDiv_7cf53_17 : decode cJ9_floorDiv_7cf53 17 = .ok (.iload_n 2, 1) := by decide +kernel
theorem dJ9_floorDiv_7cf53_18 : decode cJ9_floorDiv_7cf53 18 = .ok (.iconst 1, 1) := by decide +kernel
theorem dJ9_floorDiv_7cf53_19 : decode cJ9_floorDiv_7cf53 19 = .ok (.isub, 1) := by decide +kernel
theorem dJ9_floorDiv_7cf53_20 : decode cJ9_floorDiv_7cf53 20 = .ok (.ireturn, 1) := by decide +kernel
theorem dJ9_floorDiv_7cf53_21 : decode cJ9_floorDiv_7cf53 21 = .ok (.iload_n 2, 1) := by decide +kernel
theorem dJ9_floorDiv_7cf53_22 : decode cJ9_floorDiv_7cf53 22 = .ok (.ireturn, 1) := by decide +kernel
theorem dJ9_floorDiv_f86c9_0 : decode cJ9_floorDiv_f86c9 0 = .ok (.lload_n 0, 1) := by decide +kernel
theorem dJ9_floorDiv_f86c9_1 : decode cJ9_floorDiv_f86c9 1 = .ok (.lload_n 2, 1) := by decide +kernel
theorem dJ9_floorDiv_f86c9_2 : decode cJ9_floorDiv_f86c9 2 = .ok (.ldiv, 1) := by decide +kernel
theorem dJ9_floorDiv_f86c9_3 : decode cJ9_floorDiv_f86c9 3 = .ok (.lstore 4, 2) := by decide +kernel
theorem dJ9_floorDiv_f86c9_5 : decode cJ9_floorDiv_f86c9 5 = .ok (.lload_n 0, 1) := by decide +kernel
theorem dJ9_floorDiv_f86c9_6 : decode cJ9_floorDiv_f86c9 6 = .ok (.lload_n 2, 1) := by decide +kernel
theorem dJ9_floorDiv_f86c9_7 : decode cJ9_floorDiv_f86c9 7 = .ok (.lxor, 1) := by decide +kernel
theorem dJ9_floorDiv_f86c9_8 : decode cJ9_floorDiv_f86c9 8 = .ok (.lconst 0, 1) := by decide +kernel
theorem dJ9_floorDiv_f86c9_9 : decode cJ9_floorDiv_f86c9 9 = .ok (.lcmp, 1) := by decide +kernel
theorem dJ9_floorDiv_f86c9_10 : decode cJ9_floorDiv_f86c9 10 = .ok (.ifCond .ge 17, 3) := by decide +kernel
theorem dJ9_floorDiv_f86c9_13 : decode cJ9_floorDiv_f86c9 13 = .ok (.lload 4, 2) := by decide +kernel
theorem dJ9_floorDiv_f86c9_15 : decode cJ9_floorDiv_f86c9 15 = .ok (.lload_n 2, 1) := by decide +kernel
theorem dJ9_floorDiv_f86c9_16 : decode cJ9_floorDiv_f86c9 16 = .ok (.lmul, 1) := by decide +kernel
theorem dJ9_floorDiv_f86c9_17 : decode cJ9_floorDiv_f86c9 17 = .ok (.lload_n 0, 1) := by decide +kernel
theorem dJ9_floorDiv_f86c9_18 : decode cJ9_floorDiv_f86c9 18 = .ok (.lcmp, 1) := by decide +kernel
theorem dJ9_floorDiv_f86c9_19 : decode cJ9_floorDiv_f86c9 19 = .ok (.ifCond .eq 8, 3) := by decide +kernel
theorem dJ9_floorDiv_f86c9_22 : decode cJ9_floorDiv_f86c9 22 = .ok (.lload 4, 2) := by decide +kernel
theorem dJ9_floorDiv_f86c9_24 : decode cJ9_floorDiv_f86c9 24 = .ok (.lconst 1, 1) := by decide +kernel
theorem dJ9_floorDiv_f86c9_25 : decode cJ9_floorDiv_f86c9 25 = .ok (.lsub, 1) := by decide +kernel
theorem dJ9_floorDiv_f86c9_26 : decode cJ9_floorDiv_f86c9 26 = .ok (.lreturn, 1) := by decide +kernel
theorem dJ9_floorDiv_f86c9_27 : decode cJ9_floorDiv_f86c9 27 = .ok (.lload 4, 2) := by decide +kernel
theorem dJ9_floorDiv_f86c9_29 : decode cJ9_floorDiv_f86c9 29 = .ok (.lreturn, 1) := by decide +kernel
theorem dJ9_abs_0f7a4_0 : decode cJ9_abs_0f7a4 0 = .ok (.iload_n 0, 1) := by decide +kernel
theorem dJ9_abs_0f7a4_1 : decode cJ9_abs_0f7a4 1 = .ok (.ifCond .ge 8, 3) := by decide +kernel
theorem dJ9_abs_0f7a4_4 : decode cJ9_abs_0f7a4 4 = .ok (.iload_n 0, 1) := by decide +kernel
theorem dJ9_abs_0f7a4_5 : decode cJ9_abs_0f7a4 5 = .ok (.ineg, 1) := by decide +kernel
theorem dJ9_abs_0f7a4_6 : decode cJ9_abs_0f7a4 6 = .ok (.goto 4, 3) := by decide +kernel
theorem dJ9_abs_0f7a4_9 : decode cJ9_abs_0f7a4 9 = .ok (.iload_n 0, 1) := by decide +kernel
theorem dJ9_abs_0f7a4_10 : decode cJ9_abs_0f7a4 10 = .ok (.ireturn, 1) := by decide +kernel
theorem dJ9_max_7cf53_0 : decode cJ9_max_7cf53 0 = .ok (.iload_n 0, 1) := by decide +kernel
theorem dJ9_max_7cf53_1 : decode cJ9_max_7cf53 1 = .ok (.iload_n 1, 1) := by decide +kernel
theorem dJ9_max_7cf53_2 : decode cJ9_max_7cf53 2 = .ok (.if_icmp .lt 7, 3) := by decide +kernel
theorem dJ9_max_7cf53_5 : decode cJ9_max_7cf53 5 = .ok (.iload_n 0, 1) := by decide +kernel
theorem dJ9_max_7cf53_6 : decode cJ9_max_7cf53 6 = .ok (.goto 4, 3) := by decide +kernel
theorem dJ9_max_7cf53_9 : decode cJ9_max_7cf53 9 = .ok (.iload_n 1, 1) := by decide +kernel
theorem dJ9_max_7cf53_10 : decode cJ9_max_7cf53 10 = .ok (.ireturn, 1) := by decide +kernel
theorem dJ9_max_f86c9_0 : decode cJ9_max_f86c9 0 = .ok (.lload_n 0, 1) := by decide +kernel
theorem dJ9_max_f86c9_1 : decode cJ9_max_f86c9 1 = .ok (.lload_n 2, 1) := by decide +kernel
theorem dJ9_max_f86c9_2 : decode cJ9_max_f86c9 2 = .ok (.lcmp, 1) := by decide +kernel
theorem dJ9_max_f86c9_3 : decode cJ9_max_f86c9 3 = .ok (.ifCond .lt 7, 3) := by decide +kernel
theorem dJ9_max_f86c9_6 : decode cJ9_max_f86c9 6 = .ok (.lload_n 0, 1) := by decide +kernel
theorem dJ9_max_f86c9_7 : decode cJ9_max_f86c9 7 = .ok (.goto 4, 3) := by decide +kernel
theorem dJ9_max_f86c9_10 : decode cJ9_max_f86c9 10 = .ok (.lload_n 2, 1) := by decide +kernel
theorem dJ9_max_f86c9_11 : decode cJ9_max_f86c9 11 = .ok (.lreturn, 1) := by decide +kernel
theorem dJ9_min_7cf53_0 : decode cJ9_min_7cf53 0 = .ok (.iload_n 0, 1) := by decide +kernel
theorem dJ9_min_7cf53_1 : decode cJ9_min_7cf53 1 = .ok (.iload_n 1, 1) := by decide +kernel
theorem dJ9_min_7cf53_2 : decode cJ9_min_7cf53 2 = .ok (.if_icmp .gt 7, 3) := by decide +kernel
theorem dJ9_min_7cf53_5 : decode cJ9_min_7cf53 5 = .ok (.iload_n 0, 1) := by decide +kernel
theorem dJ9_min_7cf53_6 : decode cJ9_min_7cf53 6 = .ok (.goto 4, 3) := by decide +kernel
theorem dJ9_min_7cf53_9 : decode cJ9_min_7cf53 9 = .ok (.iload_n 1, 1) := by decide +kernel
theorem dJ9_min_7cf53_10 : decode cJ9_min_7cf53 10 = .ok (.ireturn, 1) := by decide +kernel
theorem dJ9_min_f86c9_0 : decode cJ9_min_f86c9 0 = .ok (.lload_n 0, 1) := by decide +kernel
theorem dJ9_min_f86c9_1 : decode cJ9_min_f86c9 1 = .ok (.lload_n 2, 1) := by decide +kernel
theorem dJ9_min_f86c9_2 : decode cJ9_min_f86c9 2 = .ok (.lcmp, 1) := by decide +kernel
theorem dJ9_min_f86c9_3 : decode cJ9_min_f86c9 3 = .ok (.ifCond .gt 7, 3) := by decide +kernel
theorem dJ9_min_f86c9_6 : decode cJ9_min_f86c9 6 = .ok (.lload_n 0, 1) := by decide +kernel
theorem dJ9_min_f86c9_7 : decode cJ9_min_f86c9 7 = .ok (.goto 4, 3) := by decide +kernel
theorem dJ9_min_f86c9_10 : decode cJ9_min_f86c9 10 = .ok (.lload_n 2, 1) := by decide +kernel
theorem dJ9_min_f86c9_11 : decode cJ9_min_f86c9 11 = .ok (.lreturn, 1) := by decide +kernel
theorem dJ0_length_8abf5_0 : decode cJ0_length_8abf5 0 = .ok (.aload_n 0, 1) := by decide +kernel
theorem dJ0_length_8abf5_1 : decode cJ0_length_8abf5 1 = .ok (.getfield 9, 3) := by decide +kernel
theorem dJ0_length_8abf5_4 : decode cJ0_length_8abf5 4 = .ok (.arraylength, 1) := by decide +kernel
theorem dJ0_length_8abf5_5 : decode cJ0_length_8abf5 5 = .ok (.aload_n 0, 1) := by decide +kernel
theorem dJ0_length_8abf5_6 : decode cJ0_length_8abf5 6 = .ok (.invokevirtual 335, 3) := by decide +kernel
theorem dJ0_length_8abf5_9 : decode cJ0_length_8abf5 9 = .ok (.ishr, 1) := by decide +kernel
theorem dJ0_length_8abf5_10 : decode cJ0_length_8abf5 10 = .ok (.ireturn, 1) := by decide +kernel
theorem dJ0_indexOf_0f7a4_0 : decode cJ0_indexOf_0f7a4 0 = .ok (.aload_n 0, 1) := by decide +kernel
theorem dJ0_indexOf_0f7a4_1 : decode cJ0_indexOf_0f7a4 1 = .ok (.iload_n 1, 1) := by decide +kernel
theorem dJ0_indexOf_0f7a4_2 : decode cJ0_indexOf_0f7a4 2 = .ok (.iconst 0, 1) := by decide +kernel
theorem dJ0_indexOf_0f7a4_3 : decode cJ0_indexOf_0f7a4 3 = .ok (.invokevirtual 633, 3) := by decide +kernel
theorem dJ0_indexOf_0f7a4_6 : decode cJ0_indexOf_0f7a4 6 = .ok (.ireturn, 1) := by decide +kernel
theorem dJ0_indexOf_7cf53_0 : decode cJ0_indexOf_7cf53 0 = .ok (.aload_n 0, 1) := by decide +kernel
theorem dJ0_indexOf_7cf53_1 : decode cJ0_indexOf_7cf53 1 = .ok (.invokevirtual 492, 3) := by decide +kernel
theorem dJ0_indexOf_7cf53_4 : decode cJ0_indexOf_7cf53 4 = .ok (.ifCond .eq 19, 3) := by decide +kernel
theorem dJ0_indexOf_7cf53_7 : decode cJ0_indexOf_7cf53 7 = .ok (.aload_n 0, 1) := by decide +kernel
theorem dJ0_indexOf_7cf53_8 : decode cJ0_indexOf_7cf53 8 = .ok (.getfield 9, 3) := by decide +kernel
theorem dJ0_indexOf_7cf53_11 : decode cJ0_indexOf_7cf53 11 = .ok (.iload_n 1, 1) := by decide +kernel
theorem dJ0_indexOf_7cf53_12 : decode cJ0_indexOf_7cf53 12 = .ok (.iload_n 2, 1) := by decide +kernel
theorem dJ0_indexOf_7cf53_13 : decode cJ0_indexOf_7cf53 13 = .ok (.aload_n 0, 1) := by decide +kernel
theorem dJ0_indexOf_7cf53_14 : decode cJ0_indexOf_7cf53 14 = .ok (.invokevirtual 505, 3) := by decide +kernel
theorem dJ0_indexOf_7cf53_17 : decode cJ0_indexOf_7cf53 17 = .ok (.invokestatic 637, 3) := by decide +kernel
theorem dJ0_indexOf_7cf53_20 : decode cJ0_indexOf_7cf53 20 = .ok (.goto 16, 3) := by decide +kernel
theorem dJ0_indexOf_7cf53_23 : decode cJ0_indexOf_7cf53 23 = .ok (.aload_n 0, 1) := by decide +kernel
theorem dJ0_indexOf_7cf53_24 : decode cJ0_indexOf_7cf53 24 = .ok (.getfield 9, 3) := by decide +kernel
theorem dJ0_indexOf_7cf53_27 : decode cJ0_indexOf_7cf53 27 = .ok (.iload_n 1, 1) := by decide +kernel
theorem dJ0_indexOf_7cf53_28 : decode cJ0_indexOf_7cf53 28 = .ok (.iload_n 2, 1) := by decide +kernel
theorem dJ0_indexOf_7cf53_29 : decode cJ0_indexOf_7cf53 29 = .ok (.aload_n 0, 1) := by decide +kernel
theorem dJ0_indexOf_7cf53_30 : decode cJ0_indexOf_7cf53 30 = .ok (.invokevirtual 505, 3) := by decide +kernel
theorem dJ0_indexOf_7cf53_33 : decode cJ0_indexOf_7cf53 33 = .ok (.invokestatic 640, 3) := by decide +kernel
theorem dJ0_indexOf_7cf53_36 : decode cJ0_indexOf_7cf53 36 = .ok (.ireturn, 1) := by decide +kernel
theorem dJ0_coder_7d493_0 : decode cJ0_coder_7d493 0 = .ok (.getstatic 38, 3) := by decide +kernel
theorem dJ0_coder_7d493_3 : decode cJ0_coder_7d493 3 = .ok (.ifCond .eq 10, 3) := by decide +kernel
theorem dJ0_coder_7d493_6 : decode cJ0_coder_7d493 6 = .ok (.aload_n 0, 1) := by decide +kernel
theorem dJ0_coder_7d493_7 : decode cJ0_coder_7d493 7 = .ok (.getfield 15, 3) := by decide +kernel
theorem dJ0_coder_7d493_10 : decode cJ0_coder_7d493 10 = .ok (.goto 4, 3) := by decide +kernel
theorem dJ0_coder_7d493_13 : decode cJ0_coder_7d493 13 = .ok (.iconst 1, 1) := by decide +kernel
theorem dJ0_coder_7d493_14 : decode cJ0_coder_7d493 14 = .ok (.ireturn, 1) := by decide +kernel
theorem dJ0_isLatin1_aae02_0 : decode cJ0_isLatin1_aae02 0 = .ok (.getstatic 38, 3) := by decide +kernel
theorem dJ0_isLatin1_aae02_3 : decode cJ0_isLatin1_aae02 3 = .ok (.ifCond .eq 14, 3) := by decide +kernel
theorem dJ0_isLatin1_aae02_6 : decode cJ0_isLatin1_aae02 6 = .ok (.aload_n 0, 1) := by decide +kernel
theorem dJ0_isLatin1_aae02_7 : decode cJ0_isLatin1_aae02 7 = .ok (.getfield 15, 3) := by decide +kernel
theorem dJ0_isLatin1_aae02_10 : decode cJ0_isLatin1_aae02 10 = .ok (.ifCond .ne 7, 3) := by decide +kernel
theorem dJ0_isLatin1_aae02_13 : decode cJ0_isLatin1_aae02 13 = .ok (.iconst 1, 1) := by decide +kernel
theorem dJ0_isLatin1_aae02_14 : decode cJ0_isLatin1_aae02 14 = .ok (.goto 4, 3) := by decide +kernel
theorem dJ0_isLatin1_aae02_17 : decode cJ0_isLatin1_aae02 17 = .ok (.iconst 0, 1) := by decide +kernel
theorem dJ0_isLatin1_aae02_18 : decode cJ0_isLatin1_aae02 18 = .ok (.ireturn, 1) := by decide +kernel
theorem dJ0_checkBoundsBeginEnd_23922_0 : decode cJ0_checkBoundsBeginEnd_23922 0 = .ok (.iload_n 0, 1) := by decide +kernel
theorem dJ0_checkBoundsBeginEnd_23922_1 : decode cJ0_checkBoundsBeginEnd_23922 1 = .ok (.iload_n 1, 1) := by decide +kernel
theorem dJ0_checkBoundsBeginEnd_23922_2 : decode cJ0_checkBoundsBeginEnd_23922 2 = .ok (.iload_n 2, 1) := by decide +kernel
theorem dJ0_checkBoundsBeginEnd_23922_3 : decode cJ0_checkBoundsBeginEnd_23922 3 = .ok (.getstatic 1053, 3) := by decide +kernel
theorem dJ0_checkBoundsBeginEnd_23922_6 : decode cJ0_checkBoundsBeginEnd_23922 6 = .ok (.invokestatic 1062, 3) := by decide +kernel
theorem dJ0_checkBoundsBeginEnd_23922_9 : decode cJ0_checkBoundsBeginEnd_23922 9 = .ok (.pop, 1) := by decide +kernel
theorem dJ0_checkBoundsBeginEnd_23922_10 : decode cJ0_checkBoundsBeginEnd_23922 10 = .ok (.return_, 1) := by decide +kernel
theorem dJ1_canEncode_9a6ad_0 : decode cJ1_canEncode_9a6ad 0 = .ok (.iload_n 0, 1) := by decide +kernel
theorem dJ1_canEncode_9a6ad_1 : decode cJ1_canEncode_9a6ad 1 = .ok (.ifCond .lt 14, 3) := by decide +kernel
theorem dJ1_canEncode_9a6ad_4 : decode cJ1_canEncode_9a6ad 4 = .ok (.iload_n 0, 1) := by decide +kernel
theorem dJ1_canEncode_9a6ad_5 : decode cJ1_canEncode_9a6ad 5 = .ok (.sipush 255, 3) := by decide +kernel
theorem dJ1_canEncode_9a6ad_8 : decode cJ1_canEncode_9a6ad 8 = .ok (.if_icmp .gt 7, 3) := by decide +kernel
theorem dJ1_canEncode_9a6ad_11 : decode cJ1_canEncode_9a6ad 11 = .ok (.iconst 1, 1) := by decide +kernel
theorem dJ1_canEncode_9a6ad_12 : decode cJ1_canEncode_9a6ad 12 = .ok (.goto 4, 3) := by decide +kernel
theorem dJ1_canEncode_9a6ad_15 : decode cJ1_canEncode_9a6ad 15 = .ok (.iconst 0, 1) := by decide +kernel
theorem dJ1_canEncode_9a6ad_16 : decode cJ1_canEncode_9a6ad 16 = .ok (.ireturn, 1) := by decide +kernel
theorem dJ1_indexOf_4cfef_0 : decode cJ1_indexOf_4cfef 0 = .ok (.iload_n 1, 1) := by decide +kernel
theorem dJ1_indexOf_4cfef_1 : decode cJ1_indexOf_4cfef 1 = .ok (.invokestatic 88, 3) := by decide +kernel
theorem dJ1_indexOf_4cfef_4 : decode cJ1_indexOf_4cfef 4 = .ok (.ifCond .ne 5, 3) := by decide +kernel
theorem dJ1_indexOf_4cfef_7 : decode cJ1_indexOf_4cfef 7 = .ok (.iconst (-1), 1) := by decide +kernel
theorem dJ1_indexOf_4cfef_8 : decode cJ1_indexOf_4cfef 8 = .ok (.ireturn, 1) := by decide +kernel
theorem dJ1_indexOf_4cfef_9 : decode cJ1_indexOf_4cfef 9 = .ok (.iload_n 2, 1) := by decide +kernel
theorem dJ1_indexOf_4cfef_10 : decode cJ1_indexOf_4cfef 10 = .ok (.iconst 0, 1) := by decide +kernel
theorem dJ1_indexOf_4cfef_11 : decode cJ1_indexOf_4cfef 11 = .ok (.invokestatic 92, 3) := by decide +kernel
theorem dJ1_indexOf_4cfef_14 : decode cJ1_indexOf_4cfef 14 = .ok (.istore_n 2, 1) := by decide +kernel
theorem dJ1_indexOf_4cfef_15 : decode cJ1_indexOf_4cfef 15 = .ok (.iload_n 3, 1) := by decide +kernel
theorem dJ1_indexOf_4cfef_16 : decode cJ1_indexOf_4cfef 16 = .ok (.aload_n 0, 1) := by decide +kernel
theorem dJ1_indexOf_4cfef_17 : decode cJ1_indexOf_4cfef 17 = .ok (.arraylength, 1) := by decide +kernel
theorem dJ1_indexOf_4cfef_18 : decode cJ1_indexOf_4cfef 18 = .ok (.invokestatic 38, 3) := by decide +kernel
theorem dJ1_indexOf_4cfef_21 : decode cJ1_indexOf_4cfef 21 = .ok (.istore_n 3, 1) := by decide +kernel
theorem dJ1_indexOf_4cfef_22 : decode cJ1_indexOf_4cfef 22 = .ok (.iload_n 2, 1) := by decide +kernel
theorem dJ1_indexOf_4cfef_23 : decode cJ1_indexOf_4cfef 23 = .ok (.iload_n 3, 1) := by decide +kernel
theorem dJ1_indexOf_4cfef_24 : decode cJ1_indexOf_4cfef 24 = .ok (.if_icmp .lt 5, 3) := by decide +kernel
theorem dJ1_indexOf_4cfef_27 : decode cJ1_indexOf_4cfef 27 = .ok (.iconst (-1), 1) := by decide +kernel
theorem dJ1_indexOf_4cfef_28 : decode cJ1_indexOf_4cfef 28 = .ok (.ireturn, 1) := by decide +kernel
theorem dJ1_indexOf_4cfef_29 : decode cJ1_indexOf_4cfef 29 = .ok (.aload_n 0, 1) := by decide +kernel
theorem dJ1_indexOf_4cfef_30 : decode cJ1_indexOf_4cfef 30 = .ok (.iload_n 1, 1) := by decide +kernel
theorem dJ1_indexOf_4cfef_31 : decode cJ1_indexOf_4cfef 31 = .ok (.iload_n 2, 1) := by decide +kernel
theorem dJ1_indexOf_4cfef_32 : decode cJ1_indexOf_4cfef 32 = .ok (.iload_n 3, 1) := by decide +kernel
theorem dJ1_indexOf_4cfef_33 : decode cJ1_indexOf_4cfef 33 = .ok (.invokestatic 95, 3) := by decide +kernel
theorem dJ1_indexOf_4cfef_36 : decode cJ1_indexOf_4cfef 36 = .ok (.ireturn, 1) := by decide +kernel
theorem dJ1_indexOfChar_4cfef_0 : decode cJ1_indexOfChar_4cfef 0 = .ok (.iload_n 1, 1) := by decide +kernel
theorem dJ1_indexOfChar_4cfef_1 : decode cJ1_indexOfChar_4cfef 1 = .ok (.i2b, 1) := by decide +kernel
theorem dJ1_indexOfChar_4cfef_2 : decode cJ1_indexOfChar_4cfef 2 = .ok (.istore 4, 2) := by decide +kernel
theorem dJ1_indexOfChar_4cfef_4 : decode cJ1_indexOfChar_4cfef 4 = .ok (.iload_n 2, 1) := by decide +kernel
theorem dJ1_indexOfChar_4cfef_5 : decode cJ1_indexOfChar_4cfef 5 = .ok (.istore 5, 2) := by decide +kernel
theorem dJ1_indexOfChar_4cfef_7 : decode cJ1_indexOfChar_4cfef 7 = .ok (.iload 5, 2) := by decide +kernel
theorem dJ1_indexOfChar_4cfef_9 : decode cJ1_indexOfChar_4cfef 9 = .ok (.iload_n 3, 1) := by decide +kernel
theorem dJ1_indexOfChar_4cfef_10 : decode cJ1_indexOfChar_4cfef 10 = .ok (.if_icmp .ge 21, 3) := by decide +kernel
theorem dJ1_indexOfChar_4cfef_13 : decode cJ1_indexOfChar_4cfef 13 = .ok (.aload_n 0, 1) := by decide +kernel
theorem dJ1_indexOfChar_4cfef_14 : decode cJ1_indexOfChar_4cfef 14 = .ok (.iload 5, 2) := by decide +kernel
theorem dJ1_indexOfChar_4cfef_16 : decode cJ1_indexOfChar_4cfef 16 = .ok (.baload, 1) := by decide +kernel
theorem dJ1_indexOfChar_4cfef_17 : decode cJ1_indexOfChar_4cfef 17 = .ok (.iload 4, 2) := by decide +kernel
theorem dJ1_indexOfChar_4cfef_19 : decode cJ1_indexOfChar_4cfef 19 = .ok (.if_icmp .ne 6, 3) := by decide +kernel
theorem dJ1_indexOfChar_4cfef_22 : decode cJ1_indexOfChar_4cfef 22 = .ok (.iload 5, 2) := by decide +kernel
theorem dJ1_indexOfChar_4cfef_24 : decode cJ1_indexOfChar_4cfef 24 = .ok (.ireturn, 1) := by decide +kernel
theorem dJ1_indexOfChar_4cfef_25 : decode cJ1_indexOfChar_4cfef 25 = .ok (.iinc 5 1, 3) := by decide +kernel
theorem dJ1_indexOfChar_4cfef_28 : decode cJ1_indexOfChar_4cfef 28 = .ok (.goto (-21), 3) := by decide +kernel
theorem dJ1_indexOfChar_4cfef_31 : decode cJ1_indexOfChar_4cfef 31 = .ok (.iconst (-1), 1) := by decide +kernel
theorem dJ1_indexOfChar_4cfef_32 : decode cJ1_indexOfChar_4cfef 32 = .ok (.ireturn, 1) := by decide +kernel
theorem dJ2_getChar_3b067_0 : decode cJ2_getChar_3b067 0 = .ok (.getstatic 44, 3) := by decide +kernel
theorem dJ2_getChar_3b067_3 : decode cJ2_getChar_3b067 3 = .ok (.ifCond .ne 25, 3) := by decide +kernel
theorem dJ2_getChar_3b067_6 : decode cJ2_getChar_3b067 6 = .ok (.iload_n 1, 1) := by decide +kernel
theorem dJ2_getChar_3b067_7 : decode cJ2_getChar_3b067 7 = .ok (.ifCond .lt 11, 3) := by decide +kernel
theorem dJ2_getChar_3b067_10 : decode cJ2_getChar_3b067 10 = .ok (.iload_n 1, 1) := by decide +kernel
theorem dJ2_getChar_3b067_11 : decode cJ2_getChar_3b067 11 = .ok (.aload_n 0, 1) := by decide +kernel
theorem dJ2_getChar_3b067_12 : decode cJ2_getChar_3b067 12 = .ok (.invokestatic 48, 3) := by decide +kernel
theorem dJ2_getChar_3b067_15 : decode cJ2_getChar_3b067 15 = .ok (.if_icmp .lt 13, 3) := by decide +kernel
theorem dJ2_getChar_3b067_18 : decode cJ2_getChar_3b067 18 = .ok (.new 52, 3) := by decide +kernel
theorem dJ2_getChar_3b067_21 : decode cJ2_getChar_3b067 21 = .ok (.dup, 1) := by decide +kernel
theorem dJ2_getChar_3b067_22 : decode cJ2_getChar_3b067 22 = .ok (.ldc 54, 2) := by decide +kernel
theorem dJ2_getChar_3b067_24 : decode cJ2_getChar_3b067 24 = .ok (.invokespecial 56, 3) := by decide +kernel
theorem dJ2_getChar_3b067_27 : decode cJ2_getChar_3b067 27 = .ok (.athrow, 1) := by decide +kernel
theorem dJ2_getChar_3b067_28 : decode cJ2_getChar_3b067 28 = .ok (.iload_n 1, 1) := by decide +kernel
theorem dJ2_getChar_3b067_29 : decode cJ2_getChar_3b067 29 = .ok (.iconst 1, 1) := by decide +kernel
theorem dJ2_getChar_3b067_30 : decode cJ2_getChar_3b067 30 = .ok (.ishl, 1) := by decide +kernel
theorem dJ2_getChar_3b067_31 : decode cJ2_getChar_3b067 31 = .ok (.istore_n 1, 1) := by decide +kernel
theorem dJ2_getChar_3b067_32 : decode cJ2_getChar_3b067 32 = .ok (.aload_n 0, 1) := by decide +kernel
theorem dJ2_getChar_3b067_33 : decode cJ2_getChar_3b067 33 = .ok (.iload_n 1, 1) := by decide +kernel
theorem dJ2_getChar_3b067_34 : decode cJ2_getChar_3b067 34 = .ok (.iinc 1 1, 3) := by decide +kernel
theorem dJ2_getChar_3b067_37 : decode cJ2_getChar_3b067 37 = .ok (.baload, 1) := by decide +kernel
theorem dJ2_getChar_3b067_38 : decode cJ2_getChar_3b067 38 = .ok (.sipush 255, 3) := by decide +kernel
theorem dJ2_getChar_3b067_41 : decode cJ2_getChar_3b067 41 = .ok (.iand, 1) := by decide +kernel
theorem dJ2_getChar_3b067_42 : decode cJ2_getChar_3b067 42 = .ok (.getstatic 59, 3) := by decide +kernel
theorem dJ2_getChar_3b067_45 : decode cJ2_getChar_3b067 45 = .ok (.ishl, 1) := by decide +kernel
theorem dJ2_getChar_3b067_46 : decode cJ2_getChar_3b067 46 = .ok (.aload_n 0, 1) := by decide +kernel
theorem dJ2_getChar_3b067_47 : decode cJ2_getChar_3b067 47 = .ok (.iload_n 1, 1) := by decide +kernel
theorem dJ2_getChar_3b067_48 : decode cJ2_getChar_3b067 48 = .ok (.baload, 1) := by decide +kernel
theorem dJ2_getChar_3b067_49 : decode cJ2_getChar_3b067 49 = .ok (.sipush 255, 3) := by decide +kernel
theorem dJ2_getChar_3b067_52 : decode cJ2_getChar_3b067 52 = .ok (.iand, 1) := by decide +kernel
theorem dJ2_getChar_3b067_53 : decode cJ2_getChar_3b067 53 = .ok (.getstatic 63, 3) := by decide +kernel
theorem dJ2_getChar_3b067_56 : decode cJ2_getChar_3b067 56 = .ok (.ishl, 1) := by decide +kernel
theorem dJ2_getChar_3b067_57 : decode cJ2_getChar_3b067 57 = .ok (.ior, 1) := by decide +kernel
theorem dJ2_getChar_3b067_58 : decode cJ2_getChar_3b067 58 = .ok (.i2c, 1) := by decide +kernel
theorem dJ2_getChar_3b067_59 : decode cJ2_getChar_3b067 59 = .ok (.ireturn, 1) := by decide +kernel
theorem dJ2_length_9d52b_0 : decode cJ2_length_9d52b 0 = .ok (.aload_n 0, 1) := by decide +kernel
theorem dJ2_length_9d52b_1 : decode cJ2_length_9d52b 1 = .ok (.arraylength, 1) := by decide +kernel
theorem dJ2_length_9d52b_2 : decode cJ2_length_9d52b 2 = .ok (.iconst 1, 1) := by decide +kernel
theorem dJ2_length_9d52b_3 : decode cJ2_length_9d52b 3 = .ok (.ishr, 1) := by decide +kernel
theorem dJ2_length_9d52b_4 : decode cJ2_length_9d52b 4 = .ok (.ireturn, 1) := by decide +kernel
theorem dJ2_indexOf_4cfef_0 : decode cJ2_indexOf_4cfef 0 = .ok (.iload_n 2, 1) := by decide +kernel
theorem dJ2_indexOf_4cfef_1 : decode cJ2_indexOf_4cfef 1 = .ok (.iconst 0, 1) := by decide +kernel
theorem dJ2_indexOf_4cfef_2 : decode cJ2_indexOf_4cfef 2 = .ok (.invokestatic 224, 3) := by decide +kernel
theorem dJ2_indexOf_4cfef_5 : decode cJ2_indexOf_4cfef 5 = .ok (.istore_n 2, 1) := by decide +kernel
theorem dJ2_indexOf_4cfef_6 : decode cJ2_indexOf_4cfef 6 = .ok (.iload_n 3, 1) := by decide +kernel
theorem dJ2_indexOf_4cfef_7 : decode cJ2_indexOf_4cfef 7 = .ok (.aload_n 0, 1) := by decide +kernel
theorem dJ2_indexOf_4cfef_8 : decode cJ2_indexOf_4cfef 8 = .ok (.arraylength, 1) := by decide +kernel
theorem dJ2_indexOf_4cfef_9 : decode cJ2_indexOf_4cfef 9 = .ok (.iconst 1, 1) := by decide +kernel
theorem dJ2_indexOf_4cfef_10 : decode cJ2_indexOf_4cfef 10 = .ok (.ishr, 1) := by decide +kernel
theorem dJ2_indexOf_4cfef_11 : decode cJ2_indexOf_4cfef 11 = .ok (.invokestatic 183, 3) := by decide +kernel
theorem dJ2_indexOf_4cfef_14 : decode cJ2_indexOf_4cfef 14 = .ok (.istore_n 3, 1) := by decide +kernel
theorem dJ2_indexOf_4cfef_15 : decode cJ2_indexOf_4cfef 15 = .ok (.iload_n 2, 1) := by decide +kernel
theorem dJ2_indexOf_4cfef_16 : decode cJ2_indexOf_4cfef 16 = .ok (.iload_n 3, 1) := by decide +kernel
theorem dJ2_indexOf_4cfef_17 : decode cJ2_indexOf_4cfef 17 = .ok (.if_icmp .lt 5, 3) := by decide +kernel
theorem dJ2_indexOf_4cfef_20 : decode cJ2_indexOf_4cfef 20 = .ok (.iconst (-1), 1) := by decide +kernel
theorem dJ2_indexOf_4cfef_21 : decode cJ2_indexOf_4cfef 21 = .ok (.ireturn, 1) := by decide +kernel
theorem dJ2_indexOf_4cfef_22 : decode cJ2_indexOf_4cfef 22 = .ok (.iload_n 1, 1) := by decide +kernel
theorem dJ2_indexOf_4cfef_23 : decode cJ2_indexOf_4cfef 23 = .ok (.ldc 227, 2) := by decide +kernel
theorem dJ2_indexOf_4cfef_25 : decode cJ2_indexOf_4cfef 25 = .ok (.if_icmp .ge 11, 3) := by decide +kernel
theorem dJ2_indexOf_4cfef_28 : decode cJ2_indexOf_4cfef 28 = .ok (.aload_n 0, 1) := by decide +kernel
theorem dJ2_indexOf_4cfef_29 : decode cJ2_indexOf_4cfef 29 = .ok (.iload_n 1, 1) := by decide +kernel
theorem dJ2_indexOf_4cfef_30 : decode cJ2_indexOf_4cfef 30 = .ok (.iload_n 2, 1) := by decide +kernel
theorem dJ2_indexOf_4cfef_31 : decode cJ2_indexOf_4cfef 31 = .ok (.iload_n 3, 1) := by decide +kernel
theorem dJ2_indexOf_4cfef_32 : decode cJ2_indexOf_4cfef 32 = .ok (.invokestatic 228, 3) := by decide +kernel
theorem dJ2_indexOf_4cfef_35 : decode cJ2_indexOf_4cfef 35 = .ok (.ireturn, 1) := by decide +kernel
theorem dJ2_indexOf_4cfef_36 : decode cJ2_indexOf_4cfef 36 = .ok (.aload_n 0, 1) := by decide +kernel
theorem dJ2_indexOf_4cfef_37 : decode cJ2_indexOf_4cfef 37 = .ok (.iload_n 1, 1) := by decide +kernel
theorem dJ2_indexOf_4cfef_38 : decode cJ2_indexOf_4cfef 38 = .ok (.iload_n 2, 1) := by decide +kernel
theorem dJ2_indexOf_4cfef_39 : decode cJ2_indexOf_4cfef 39 = .ok (.iload_n 3, 1) := by decide +kernel
theorem dJ2_indexOf_4cfef_40 : decode cJ2_indexOf_4cfef 40 = .ok (.invokestatic 232, 3) := by decide +kernel
theorem dJ2_indexOf_4cfef_43 : decode cJ2_indexOf_4cfef 43 = .ok (.ireturn, 1) := by decide +kernel
theorem dJ2_indexOfChar_4cfef_0 : decode cJ2_indexOfChar_4cfef 0 = .ok (.iload_n 2, 1) := by decide +kernel
theorem dJ2_indexOfChar_4cfef_1 : decode cJ2_indexOfChar_4cfef 1 = .ok (.iload_n 3, 1) := by decide +kernel
theorem dJ2_indexOfChar_4cfef_2 : decode cJ2_indexOfChar_4cfef 2 = .ok (.aload_n 0, 1) := by decide +kernel
theorem dJ2_indexOfChar_4cfef_3 : decode cJ2_indexOfChar_4cfef 3 = .ok (.invokestatic 96, 3) := by decide +kernel
theorem dJ2_indexOfChar_4cfef_6 : decode cJ2_indexOfChar_4cfef 6 = .ok (.aload_n 0, 1) := by decide +kernel
theorem dJ2_indexOfChar_4cfef_7 : decode cJ2_indexOfChar_4cfef 7 = .ok (.iload_n 1, 1) := by decide +kernel
theorem dJ2_indexOfChar_4cfef_8 : decode cJ2_indexOfChar_4cfef 8 = .ok (.iload_n 2, 1) := by decide +kernel
theorem dJ2_indexOfChar_4cfef_9 : decode cJ2_indexOfChar_4cfef 9 = .ok (.iload_n 3, 1) := by decide +kernel
theorem dJ2_indexOfChar_4cfef_10 : decode cJ2_indexOfChar_4cfef 10 = .ok (.invokestatic 244, 3) := by decide +kernel
theorem dJ2_indexOfChar_4cfef_13 : decode cJ2_indexOfChar_4cfef 13 = .ok (.ireturn, 1) := by decide +kernel
theorem dJ2_indexOfCharUnsafe_4cfef_0 : decode cJ2_indexOfCharUnsafe_4cfef 0 = .ok (.iload_n 2, 1) := by decide +kernel
theorem dJ2_indexOfCharUnsafe_4cfef_1 : decode cJ2_indexOfCharUnsafe_4cfef 1 = .ok (.istore 4, 2) := by decide +kernel
theorem dJ2_indexOfCharUnsafe_4cfef_3 : decode cJ2_indexOfCharUnsafe_4cfef 3 = .ok (.iload 4, 2) := by decide +kernel
theorem dJ2_indexOfCharUnsafe_4cfef_5 : decode cJ2_indexOfCharUnsafe_4cfef 5 = .ok (.iload_n 3, 1) := by decide +kernel
theorem dJ2_indexOfCharUnsafe_4cfef_6 : decode cJ2_indexOfCharUnsafe_4cfef 6 = .ok (.if_icmp .ge 22, 3) := by decide +kernel
theorem dJ2_indexOfCharUnsafe_4cfef_9 : decode cJ2_indexOfCharUnsafe_4cfef 9 = .ok (.aload_n 0, 1) := by decide +kernel
theorem dJ2_indexOfCharUnsafe_4cfef_10 : decode cJ2_indexOfCharUnsafe_4cfef 10 = .ok (.iload 4, 2) := by decide +kernel
theorem dJ2_indexOfCharUnsafe_4cfef_12 : decode cJ2_indexOfCharUnsafe_4cfef 12 = .ok (.invokestatic 71, 3) := by decide +kernel
theorem dJ2_indexOfCharUnsafe_4cfef_15 : decode cJ2_indexOfCharUnsafe_4cfef 15 = .ok (.iload_n 1, 1) := by decide +kernel
theorem dJ2_indexOfCharUnsafe_4cfef_16 : decode cJ2_indexOfCharUnsafe_4cfef 16 = .ok (.if_icmp .ne 6, 3) := by decide +kernel
theorem dJ2_indexOfCharUnsafe_4cfef_19 : decode cJ2_indexOfCharUnsafe_4cfef 19 = .ok (.iload 4, 2) := by decide +kernel
theorem dJ2_indexOfCharUnsafe_4cfef_21 : decode cJ2_indexOfCharUnsafe_4cfef 21 = .ok (.ireturn, 1) := by decide +kernel
theorem dJ2_indexOfCharUnsafe_4cfef_22 : decode cJ2_indexOfCharUnsafe_4cfef 22 = .ok (.iinc 4 1, 3) := by decide +kernel
theorem dJ2_indexOfCharUnsafe_4cfef_25 : decode cJ2_indexOfCharUnsafe_4cfef 25 = .ok (.goto (-22), 3) := by decide +kernel
theorem dJ2_indexOfCharUnsafe_4cfef_28 : decode cJ2_indexOfCharUnsafe_4cfef 28 = .ok (.iconst (-1), 1) := by decide +kernel
theorem dJ2_indexOfCharUnsafe_4cfef_29 : decode cJ2_indexOfCharUnsafe_4cfef 29 = .ok (.ireturn, 1) := by decide +kernel
theorem dJ2_indexOfSupplementary_4cfef_0 : decode cJ2_indexOfSupplementary_4cfef 0 = .ok (.iload_n 1, 1) := by decide +kernel
theorem dJ2_indexOfSupplementary_4cfef_1 : decode cJ2_indexOfSupplementary_4cfef 1 = .ok (.invokestatic 164, 3) := by decide +kernel
theorem dJ2_indexOfSupplementary_4cfef_4 : decode cJ2_indexOfSupplementary_4cfef 4 = .ok (.ifCond .eq 65, 3) := by decide +kernel
theorem dJ2_indexOfSupplementary_4cfef_7 : decode cJ2_indexOfSupplementary_4cfef 7 = .ok (.iload_n 1, 1) := by decide +kernel
theorem dJ2_indexOfSupplementary_4cfef_8 : decode cJ2_indexOfSupplementary_4cfef 8 = .ok (.invokestatic 157, 3) := by decide +kernel
theorem dJ2_indexOfSupplementary_4cfef_11 : decode cJ2_indexOfSupplementary_4cfef 11 = .ok (.istore 4, 2) := by decide +kernel
theorem dJ2_indexOfSupplementary_4cfef_13 : decode cJ2_indexOfSupplementary_4cfef 13 = .ok (.iload_n 1, 1) := by decide +kernel
theorem dJ2_indexOfSupplementary_4cfef_14 : decode cJ2_indexOfSupplementary_4cfef 14 = .ok (.invokestatic 161, 3) := by decide +kernel
theorem dJ2_indexOfSupplementary_4cfef_17 : decode cJ2_indexOfSupplementary_4cfef 17 = .ok (.istore 5, 2) := by decide +kernel
theorem dJ2_indexOfSupplementary_4cfef_19 : decode cJ2_indexOfSupplementary_4cfef 19 = .ok (.iload_n 2, 1) := by decide +kernel
theorem dJ2_indexOfSupplementary_4cfef_20 : decode cJ2_indexOfSupplementary_4cfef 20 = .ok (.iload_n 3, 1) := by decide +kernel
theorem dJ2_indexOfSupplementary_4cfef_21 : decode cJ2_indexOfSupplementary_4cfef 21 = .ok (.aload_n 0, 1) := by decide +kernel
theorem dJ2_indexOfSupplementary_4cfef_22 : decode cJ2_indexOfSupplementary_4cfef 22 = .ok (.invokestatic 96, 3) := by decide +kernel
theorem dJ2_indexOfSupplementary_4cfef_25 : decode cJ2_indexOfSupplementary_4cfef 25 = .ok (.iload_n 2, 1) := by decide +kernel
theorem dJ2_indexOfSupplementary_4cfef_26 : decode cJ2_indexOfSupplementary_4cfef 26 = .ok (.istore 6, 2) := by decide +kernel
theorem dJ2_indexOfSupplementary_4cfef_28 : decode cJ2_indexOfSupplementary_4cfef 28 = .ok (.iload 6, 2) := by decide +kernel
theorem dJ2_indexOfSupplementary_4cfef_30 : decode cJ2_indexOfSupplementary_4cfef 30 = .ok (.iload_n 3, 1) := by decide +kernel
theorem dJ2_indexOfSupplementary_4cfef_31 : decode cJ2_indexOfSupplementary_4cfef 31 = .ok (.iconst 1, 1) := by decide +kernel
theorem dJ2_indexOfSupplementary_4cfef_32 : decode cJ2_indexOfSupplementary_4cfef 32 = .ok (.isub, 1) := by decide +kernel
theorem dJ2_indexOfSupplementary_4cfef_33 : decode cJ2_indexOfSupplementary_4cfef 33 = .ok (.if_icmp .ge 36, 3) := by decide +kernel
theorem dJ2_indexOfSupplementary_4cfef_36 : decode cJ2_indexOfSupplementary_4cfef 36 = .ok (.aload_n 0, 1) := by decide +kernel
theorem dJ2_indexOfSupplementary_4cfef_37 : decode cJ2_indexOfSupplementary_4cfef 37 = .ok (.iload 6, 2) := by decide +kernel
theorem dJ2_indexOfSupplementary_4cfef_39 : decode cJ2_indexOfSupplementary_4cfef 39 = .ok (.invokestatic 71, 3) := by decide +kernel
theorem dJ2_indexOfSupplementary_4cfef_42 : decode cJ2_indexOfSupplementary_4cfef 42 = .ok (.iload 4, 2) := by decide +kernel
theorem dJ2_indexOfSupplementary_4cfef_44 : decode cJ2_indexOfSupplementary_4cfef 44 = .ok (.if_icmp .ne 19, 3) := by decide +kernel
theorem dJ2_indexOfSupplementary_4cfef_47 : decode cJ2_indexOfSupplementary_4cfef 47 = .ok (.aload_n 0, 1) := by decide +kernel
theorem dJ2_indexOfSupplementary_4cfef_48 : decode cJ2_indexOfSupplementary_4cfef 48 = .ok (.iload 6, 2) := by decide +kernel
theorem dJ2_indexOfSupplementary_4cfef_50 : decode cJ2_indexOfSupplementary_4cfef 50 = .ok (.iconst 1, 1) := by decide +kernel
theorem dJ2_indexOfSupplementary_4cfef_51 : decode cJ2_indexOfSupplementary_4cfef 51 = .ok (.iadd, 1) := by decide +kernel
theorem dJ2_indexOfSupplementary_4cfef_52 : decode cJ2_indexOfSupplementary_4cfef 52 = .ok (.invokestatic 71, 3) := by decide +kernel
theorem dJ2_indexOfSupplementary_4cfef_55 : decode cJ2_indexOfSupplementary_4cfef 55 = .ok (.iload 5, 2) := by decide +kernel
theorem dJ2_indexOfSupplementary_4cfef_57 : decode cJ2_indexOfSupplementary_4cfef 57 = .ok (.if_icmp .ne 6, 3) := by decide +kernel
theorem dJ2_indexOfSupplementary_4cfef_60 : decode cJ2_indexOfSupplementary_4cfef 60 = .ok (.iload 6, 2) := by decide +kernel
theorem dJ2_indexOfSupplementary_4cfef_62 : decode cJ2_indexOfSupplementary_4cfef 62 = .ok (.ireturn, 1) := by decide +kernel
theorem dJ2_indexOfSupplementary_4cfef_63 : decode cJ2_indexOfSupplementary_4cfef 63 = .ok (.iinc 6 1, 3) := by decide +kernel
theorem dJ2_indexOfSupplementary_4cfef_66 : decode cJ2_indexOfSupplementary_4cfef 66 = .ok (.goto (-38), 3) := by decide +kernel
theorem dJ2_indexOfSupplementary_4cfef_69 : decode cJ2_indexOfSupplementary_4cfef 69 = .ok (.iconst (-1), 1) := by decide +kernel
theorem dJ2_indexOfSupplementary_4cfef_70 : decode cJ2_indexOfSupplementary_4cfef 70 = .ok (.ireturn, 1) := by decide +kernel
theorem dJ2_checkBoundsBeginEnd_d044e_0 : decode cJ2_checkBoundsBeginEnd_d044e 0 = .ok (.iload_n 0, 1) := by decide +kernel
theorem dJ2_checkBoundsBeginEnd_d044e_1 : decode cJ2_checkBoundsBeginEnd_d044e 1 = .ok (.iload_n 1, 1) := by decide +kernel
theorem dJ2_checkBoundsBeginEnd_d044e_2 : decode cJ2_checkBoundsBeginEnd_d044e 2 = .ok (.aload_n 2, 1) := by decide +kernel
theorem dJ2_checkBoundsBeginEnd_d044e_3 : decode cJ2_checkBoundsBeginEnd_d044e 3 = .ok (.invokestatic 48, 3) := by decide +kernel
theorem dJ2_checkBoundsBeginEnd_d044e_6 : decode cJ2_checkBoundsBeginEnd_d044e 6 = .ok (.invokestatic 241, 3) := by decide +kernel
theorem dJ2_checkBoundsBeginEnd_d044e_9 : decode cJ2_checkBoundsBeginEnd_d044e 9 = .ok (.return_, 1) := by decide +kernel
theorem dJ3_checkFromToIndex_8c36e_0 : decode cJ3_checkFromToIndex_8c36e 0 = .ok (.iload_n 0, 1) := by decide +kernel
theorem dJ3_checkFromToIndex_8c36e_1 : decode cJ3_checkFromToIndex_8c36e 1 = .ok (.ifCond .lt 13, 3) := by decide +kernel
theorem dJ3_checkFromToIndex_8c36e_4 : decode cJ3_checkFromToIndex_8c36e 4 = .ok (.iload_n 0, 1) := by decide +kernel
theorem dJ3_checkFromToIndex_8c36e_5 : decode cJ3_checkFromToIndex_8c36e 5 = .ok (.iload_n 1, 1) := by decide +kernel
theorem dJ3_checkFromToIndex_8c36e_6 : decode cJ3_checkFromToIndex_8c36e 6 = .ok (.if_icmp .gt 8, 3) := by decide +kernel
theorem dJ3_checkFromToIndex_8c36e_9 : decode cJ3_checkFromToIndex_8c36e 9 = .ok (.iload_n 1, 1) := by decide +kernel
theorem dJ3_checkFromToIndex_8c36e_10 : decode cJ3_checkFromToIndex_8c36e 10 = .ok (.iload_n 2, 1) := by decide +kernel
theorem dJ3_checkFromToIndex_8c36e_11 : decode cJ3_checkFromToIndex_8c36e 11 = .ok (.if_icmp .le 11, 3) := by decide +kernel
theorem dJ3_checkFromToIndex_8c36e_14 : decode cJ3_checkFromToIndex_8c36e 14 = .ok (.aload_n 3, 1) := by decide +kernel
theorem dJ3_checkFromToIndex_8c36e_15 : decode cJ3_checkFromToIndex_8c36e 15 = .ok (.iload_n 0, 1) := by decide +kernel
theorem dJ3_checkFromToIndex_8c36e_16 : decode cJ3_checkFromToIndex_8c36e 16 = .ok (.iload_n 1, 1) := by decide +kernel
theorem dJ3_checkFromToIndex_8c36e_17 : decode cJ3_checkFromToIndex_8c36e 17 = .ok (.iload_n 2, 1) := by decide +kernel
theorem dJ3_checkFromToIndex_8c36e_18 : decode cJ3_checkFromToIndex_8c36e 18 = .ok (.invokestatic 99, 3) := by decide +kernel
theorem dJ3_checkFromToIndex_8c36e_21 : decode cJ3_checkFromToIndex_8c36e 21 = .ok (.athrow, 1) := by decide +kernel
theorem dJ3_checkFromToIndex_8c36e_22 : decode cJ3_checkFromToIndex_8c36e 22 = .ok (.iload_n 0, 1) := by decide +kernel
theorem dJ3_checkFromToIndex_8c36e_23 : decode cJ3_checkFromToIndex_8c36e 23 = .ok (.ireturn, 1) := by decide +kernel
end
section
theorem dL_addPair_0 : decode cL_addPair 0 = .ok (.aload 4, 2) := by decide +kernel
theorem dL_addPair_2 : decode cL_addPair 2 = .ok (.iconst 0, 1) := by decide +kernel
theorem dL_addPair_3 : decode cL_addPair 3 = .ok (.aload_n 0, 1) := by decide +kernel
theorem dL_addPair_4 : decode cL_addPair 4 = .ok (.iload_n 1, 1) := by decide +kernel
theorem dL_addPair_5 : decode cL_addPair 5 = .ok (.iload_n 2, 1) := by decide +kernel
theorem dL_addPair_6 : decode cL_addPair 6 = .ok (.iload_n 3, 1) := by decide +kernel
theorem dL_addPair_7 : decode cL_addPair 7 = .ok (.invokevirtual 7, 3) := by decide +kernel
theorem dL_addPair_10 : decode cL_addPair 10 = .ok (.i2l, 1) := by decide +kernel
theorem dL_addPair_11 : decode cL_addPair 11 = .ok (.lastore, 1) := by decide +kernel
theorem dL_addPair_12 : decode cL_addPair 12 = .ok (.goto 11, 3) := by decide +kernel
theorem dL_addPair_15 : decode cL_addPair 15 = .ok (.astore 5, 2) := by decide +kernel
theorem dL_addPair_17 : decode cL_addPair 17 = .ok (.iconst 1, 1) := by decide +kernel
theorem dL_addPair_18 : decode cL_addPair 18 = .ok (.ireturn, 1) := by decide +kernel
theorem dL_addPair_19 : decode cL_addPair 19 = .ok (.astore 5, 2) := by decide +kernel
theorem dL_addPair_21 : decode cL_addPair 21 = .ok (.iconst 2, 1) := by decide +kernel
theorem dL_addPair_22 : decode cL_addPair 22 = .ok (.ireturn, 1) := by decide +kernel
theorem dL_addPair_23 : decode cL_addPair 23 = .ok (.iconst 0, 1) := by decide +kernel
theorem dL_addPair_24 : decode cL_addPair 24 = .ok (.ireturn, 1) := by decide +kernel
theorem dL_forgetPairs_0 : decode cL_forgetPairs 0 = .ok (.aload_n 2, 1) := by decide +kernel
theorem dL_forgetPairs_1 : decode cL_forgetPairs 1 = .ok (.iconst 0, 1) := by decide +kernel
theorem dL_forgetPairs_2 : decode cL_forgetPairs 2 = .ok (.aload_n 0, 1) := by decide +kernel
theorem dL_forgetPairs_3 : decode cL_forgetPairs 3 = .ok (.iload_n 1, 1) := by decide +kernel
theorem dL_forgetPairs_4 : decode cL_forgetPairs 4 = .ok (.invokevirtual 17, 3) := by decide +kernel
theorem dL_forgetPairs_7 : decode cL_forgetPairs 7 = .ok (.i2l, 1) := by decide +kernel
theorem dL_forgetPairs_8 : decode cL_forgetPairs 8 = .ok (.lastore, 1) := by decide +kernel
theorem dL_forgetPairs_9 : decode cL_forgetPairs 9 = .ok (.goto 6, 3) := by decide +kernel
theorem dL_forgetPairs_12 : decode cL_forgetPairs 12 = .ok (.astore_n 3, 1) := by decide +kernel
theorem dL_forgetPairs_13 : decode cL_forgetPairs 13 = .ok (.iconst 1, 1) := by decide +kernel
theorem dL_forgetPairs_14 : decode cL_forgetPairs 14 = .ok (.ireturn, 1) := by decide +kernel
theorem dL_forgetPairs_15 : decode cL_forgetPairs 15 = .ok (.iconst 0, 1) := by decide +kernel
theorem dL_forgetPairs_16 : decode cL_forgetPairs 16 = .ok (.ireturn, 1) := by decide +kernel
theorem dL_correctedTime_0 : decode cL_correctedTime 0 = .ok (.aload_n 3, 1) := by decide +kernel
theorem dL_correctedTime_1 : decode cL_correctedTime 1 = .ok (.iconst 0, 1) := by decide +kernel
theorem dL_correctedTime_2 : decode cL_correctedTime 2 = .ok (.aload_n 0, 1) := by decide +kernel
theorem dL_correctedTime_3 : decode cL_correctedTime 3 = .ok (.iload_n 1, 1) := by decide +kernel
theorem dL_correctedTime_4 : decode cL_correctedTime 4 = .ok (.iload_n 2, 1) := by decide +kernel
theorem dL_correctedTime_5 : decode cL_correctedTime 5 = .ok (.invokevirtual 21, 3) := by decide +kernel
theorem dL_correctedTime_8 : decode cL_correctedTime 8 = .ok (.i2l, 1) := by decide +kernel
theorem dL_correctedTime_9 : decode cL_correctedTime 9 = .ok (.lastore, 1) := by decide +kernel
theorem dL_correctedTime_10 : decode cL_correctedTime 10 = .ok (.goto 11, 3) := by decide +kernel
theorem dL_correctedTime_13 : decode cL_correctedTime 13 = .ok (.astore 4, 2) := by decide +kernel
theorem dL_correctedTime_15 : decode cL_correctedTime 15 = .ok (.iconst 1, 1) := by decide +kernel
theorem dL_correctedTime_16 : decode cL_correctedTime 16 = .ok (.ireturn, 1) := by decide +kernel
theorem dL_correctedTime_17 : decode cL_correctedTime 17 = .ok (.astore 4, 2) := by decide +kernel
theorem dL_correctedTime_19 : decode cL_correctedTime 19 = .ok (.iconst 2, 1) := by decide +kernel
theorem dL_correctedTime_20 : decode cL_correctedTime 20 = .ok (.ireturn, 1) := by decide +kernel
theorem dL_correctedTime_21 : decode cL_correctedTime 21 = .ok (.iconst 0, 1) := by decide +kernel
theorem dL_correctedTime_22 : decode cL_correctedTime 22 = .ok (.ireturn, 1) := by decide +kernel
theorem dL_setGate_0 : decode cL_setGate 0 = .ok (.aload_n 2, 1) := by decide +kernel
theorem dL_setGate_1 : decode cL_setGate 1 = .ok (.iconst 0, 1) := by decide +kernel
theorem dL_setGate_2 : decode cL_setGate 2 = .ok (.aload_n 0, 1) := by decide +kernel
theorem dL_setGate_3 : decode cL_setGate 3 = .ok (.iload_n 1, 1) := by decide +kernel
theorem dL_setGate_4 : decode cL_setGate 4 = .ok (.invokevirtual 25, 3) := by decide +kernel
theorem dL_setGate_7 : decode cL_setGate 7 = .ok (.i2l, 1) := by decide +kernel
theorem dL_setGate_8 : decode cL_setGate 8 = .ok (.lastore, 1) := by decide +kernel
theorem dL_setGate_9 : decode cL_setGate 9 = .ok (.goto 6, 3) := by decide +kernel
theorem dL_setGate_12 : decode cL_setGate 12 = .ok (.astore_n 3, 1) := by decide +kernel
theorem dL_setGate_13 : decode cL_setGate 13 = .ok (.iconst 1, 1) := by decide +kernel
theorem dL_setGate_14 : decode cL_setGate 14 = .ok (.ireturn, 1) := by decide +kernel
theorem dL_setGate_15 : decode cL_setGate 15 = .ok (.iconst 0, 1) := by decide +kernel
theorem dL_setGate_16 : decode cL_setGate 16 = .ok (.ireturn, 1) := by decide +kernel
theorem dL_setFilter_0 : decode cL_setFilter 0 = .ok (.aload_n 3, 1) := by decide +kernel
theorem dL_setFilter_1 : decode cL_setFilter 1 = .ok (.iconst 0, 1) := by decide +kernel
theorem dL_setFilter_2 : decode cL_setFilter 2 = .ok (.aload_n 0, 1) := by decide +kernel
theorem dL_setFilter_3 : decode cL_setFilter 3 = .ok (.iload_n 1, 1) := by decide +kernel
theorem dL_setFilter_4 : decode cL_setFilter 4 = .ok (.iload_n 2, 1) := by decide +kernel
theorem dL_setFilter_5 : decode cL_setFilter 5 = .ok (.invokevirtual 28, 3) := by decide +kernel
theorem dL_setFilter_8 : decode cL_setFilter 8 = .ok (.i2l, 1) := by decide +kernel
theorem dL_setFilter_9 : decode cL_setFilter 9 = .ok (.lastore, 1) := by decide +kernel
theorem dL_setFilter_10 : decode cL_setFilter 10 = .ok (.goto 7, 3) := by decide +kernel
theorem dL_setFilter_13 : decode cL_setFilter 13 = .ok (.astore 4, 2) := by decide +kernel
theorem dL_setFilter_15 : decode cL_setFilter 15 = .ok (.iconst 1, 1) := by decide +kernel
theorem dL_setFilter_16 : decode cL_setFilter 16 = .ok (.ireturn, 1) := by decide +kernel
theorem dL_setFilter_17 : decode cL_setFilter 17 = .ok (.iconst 0, 1) := by decide +kernel
theorem dL_setFilter_18 : decode cL_setFilter 18 = .ok (.ireturn, 1) := by decide +kernel
theorem dL_setLimit_0 : decode cL_setLimit 0 = .ok (.aload_n 2, 1) := by decide +kernel
theorem dL_setLimit_1 : decode cL_setLimit 1 = .ok (.iconst 0, 1) := by decide +kernel
theorem dL_setLimit_2 : decode cL_setLimit 2 = .ok (.aload_n 0, 1) := by decide +kernel
theorem dL_setLimit_3 : decode cL_setLimit 3 = .ok (.iload_n 1, 1) := by decide +kernel
theorem dL_setLimit_4 : decode cL_setLimit 4 = .ok (.invokevirtual 31, 3) := by decide +kernel
theorem dL_setLimit_7 : decode cL_setLimit 7 = .ok (.i2l, 1) := by decide +kernel
theorem dL_setLimit_8 : decode cL_setLimit 8 = .ok (.lastore, 1) := by decide +kernel
theorem dL_setLimit_9 : decode cL_setLimit 9 = .ok (.goto 6, 3) := by decide +kernel
theorem dL_setLimit_12 : decode cL_setLimit 12 = .ok (.astore_n 3, 1) := by decide +kernel
theorem dL_setLimit_13 : decode cL_setLimit 13 = .ok (.iconst 1, 1) := by decide +kernel
theorem dL_setLimit_14 : decode cL_setLimit 14 = .ok (.ireturn, 1) := by decide +kernel
theorem dL_setLimit_15 : decode cL_setLimit 15 = .ok (.iconst 0, 1) := by decide +kernel
theorem dL_setLimit_16 : decode cL_setLimit 16 = .ok (.ireturn, 1) := by decide +kernel
theorem dL_setNearness_0 : decode cL_setNearness 0 = .ok (.aload_n 2, 1) := by decide +kernel
theorem dL_setNearness_1 : decode cL_setNearness 1 = .ok (.iconst 0, 1) := by decide +kernel
theorem dL_setNearness_2 : decode cL_setNearness 2 = .ok (.aload_n 0, 1) := by decide +kernel
theorem dL_setNearness_3 : decode cL_setNearness 3 = .ok (.iload_n 1, 1) := by decide +kernel
theorem dL_setNearness_4 : decode cL_setNearness 4 = .ok (.invokevirtual 34, 3) := by decide +kernel
theorem dL_setNearness_7 : decode cL_setNearness 7 = .ok (.i2l, 1) := by decide +kernel
theorem dL_setNearness_8 : decode cL_setNearness 8 = .ok (.lastore, 1) := by decide +kernel
theorem dL_setNearness_9 : decode cL_setNearness 9 = .ok (.goto 6, 3) := by decide +kernel
theorem dL_setNearness_12 : decode cL_setNearness 12 = .ok (.astore_n 3, 1) := by decide +kernel
theorem dL_setNearness_13 : decode cL_setNearness 13 = .ok (.iconst 1, 1) := by decide +kernel
theorem dL_setNearness_14 : decode cL_setNearness 14 = .ok (.ireturn, 1) := by decide +kernel
theorem dL_setNearness_15 : decode cL_setNearness 15 = .ok (.iconst 0, 1) := by decide +kernel
theorem dL_setNearness_16 : decode cL_setNearness 16 = .ok (.ireturn, 1) := by decide +kernel
theorem dL_report_0 : decode cL_report 0 = .ok (.aload 5, 2) := by decide +kernel
theorem dL_report_2 : decode cL_report 2 = .ok (.iconst 0, 1) := by decide +kernel
theorem dL_report_3 : decode cL_report 3 = .ok (.aload_n 0, 1) := by decide +kernel
theorem dL_report_4 : decode cL_report 4 = .ok (.iload_n 1, 1) := by decide +kernel
theorem dL_report_5 : decode cL_report 5 = .ok (.iload_n 2, 1) := by decide +kernel
theorem dL_report_6 : decode cL_report 6 = .ok (.iload_n 3, 1) := by decide +kernel
theorem dL_report_7 : decode cL_report 7 = .ok (.iload 4, 2) := by decide +kernel
theorem dL_report_9 : decode cL_report 9 = .ok (.invokevirtual 37, 3) := by decide +kernel
theorem dL_report_12 : decode cL_report 12 = .ok (.i2l, 1) := by decide +kernel
theorem dL_report_13 : decode cL_report 13 = .ok (.lastore, 1) := by decide +kernel
theorem dL_report_14 : decode cL_report 14 = .ok (.goto 15, 3) := by decide +kernel
theorem dL_report_17 : decode cL_report 17 = .ok (.astore 6, 2) := by decide +kernel
theorem dL_report_19 : decode cL_report 19 = .ok (.iconst 1, 1) := by decide +kernel
theorem dL_report_20 : decode cL_report 20 = .ok (.ireturn, 1) := by decide +kernel
theorem dL_report_21 : decode cL_report 21 = .ok (.astore 6, 2) := by decide +kernel
theorem dL_report_23 : decode cL_report 23 = .ok (.iconst 2, 1) := by decide +kernel
theorem dL_report_24 : decode cL_report 24 = .ok (.ireturn, 1) := by decide +kernel
theorem dL_report_25 : decode cL_report 25 = .ok (.astore 6, 2) := by decide +kernel
theorem dL_report_27 : decode cL_report 27 = .ok (.iconst 3, 1) := by decide +kernel
theorem dL_report_28 : decode cL_report 28 = .ok (.ireturn, 1) := by decide +kernel
theorem dL_report_29 : decode cL_report 29 = .ok (.iconst 0, 1) := by decide +kernel
theorem dL_report_30 : decode cL_report 30 = .ok (.ireturn, 1) := by decide +kernel
theorem dL_process_0 : decode cL_process 0 = .ok (.aload_n 1, 1) := by decide +kernel
theorem dL_process_1 : decode cL_process 1 = .ok (.iconst 0, 1) := by decide +kernel
theorem dL_process_2 : decode cL_process 2 = .ok (.aload_n 0, 1) := by decide +kernel
theorem dL_process_3 : decode cL_process 3 = .ok (.invokevirtual 43, 3) := by decide +kernel
theorem dL_process_6 : decode cL_process 6 = .ok (.i2l, 1) := by decide +kernel
theorem dL_process_7 : decode cL_process 7 = .ok (.lastore, 1) := by decide +kernel
theorem dL_process_8 : decode cL_process 8 = .ok (.goto 6, 3) := by decide +kernel
theorem dL_process_11 : decode cL_process 11 = .ok (.astore_n 2, 1) := by decide +kernel
theorem dL_process_12 : decode cL_process 12 = .ok (.iconst 1, 1) := by decide +kernel
theorem dL_process_13 : decode cL_process 13 = .ok (.ireturn, 1) := by decide +kernel
theorem dL_process_14 : decode cL_process 14 = .ok (.iconst 0, 1) := by decide +kernel
theorem dL_process_15 : decode cL_process 15 = .ok (.ireturn, 1) := by decide +kernel
theorem dL_distance_0 : decode cL_distance 0 = .ok (.aload_n 3, 1) := by decide +kernel
theorem dL_distance_1 : decode cL_distance 1 = .ok (.iconst 0, 1) := by decide +kernel
theorem dL_distance_2 : decode cL_distance 2 = .ok (.aload_n 0, 1) := by decide +kernel
theorem dL_distance_3 : decode cL_distance 3 = .ok (.iload_n 1, 1) := by decide +kernel
theorem dL_distance_4 : decode cL_distance 4 = .ok (.iload_n 2, 1) := by decide +kernel
theorem dL_distance_5 : decode cL_distance 5 = .ok (.invokevirtual 47, 3) := by decide +kernel
theorem dL_distance_8 : decode cL_distance 8 = .ok (.lastore, 1) := by decide +kernel
theorem dL_distance_9 : decode cL_distance 9 = .ok (.goto 11, 3) := by decide +kernel
theorem dL_distance_12 : decode cL_distance 12 = .ok (.astore 4, 2) := by decide +kernel
theorem dL_distance_14 : decode cL_distance 14 = .ok (.iconst 1, 1) := by decide +kernel
theorem dL_distance_15 : decode cL_distance 15 = .ok (.ireturn, 1) := by decide +kernel
theorem dL_distance_16 : decode cL_distance 16 = .ok (.astore 4, 2) := by decide +kernel
theorem dL_distance_18 : decode cL_distance 18 = .ok (.iconst 2, 1) := by decide +kernel
theorem dL_distance_19 : decode cL_distance 19 = .ok (.ireturn, 1) := by decide +kernel
theorem dL_distance_20 : decode cL_distance 20 = .ok (.iconst 0, 1) := by decide +kernel
theorem dL_distance_21 : decode cL_distance 21 = .ok (.ireturn, 1) := by decide +kernel
theorem dL_canTake_0 : decode cL_canTake 0 = .ok (.aload_n 3, 1) := by decide +kernel
theorem dL_canTake_1 : decode cL_canTake 1 = .ok (.iconst 0, 1) := by decide +kernel
theorem dL_canTake_2 : decode cL_canTake 2 = .ok (.aload_n 0, 1) := by decide +kernel
theorem dL_canTake_3 : decode cL_canTake 3 = .ok (.iload_n 1, 1) := by decide +kernel
theorem dL_canTake_4 : decode cL_canTake 4 = .ok (.iload_n 2, 1) := by decide +kernel
theorem dL_canTake_5 : decode cL_canTake 5 = .ok (.invokevirtual 53, 3) := by decide +kernel
theorem dL_canTake_8 : decode cL_canTake 8 = .ok (.ifCond .eq 7, 3) := by decide +kernel
theorem dL_canTake_11 : decode cL_canTake 11 = .ok (.lconst 1, 1) := by decide +kernel
theorem dL_canTake_12 : decode cL_canTake 12 = .ok (.goto 4, 3) := by decide +kernel
theorem dL_canTake_15 : decode cL_canTake 15 = .ok (.lconst 0, 1) := by decide +kernel
theorem dL_canTake_16 : decode cL_canTake 16 = .ok (.lastore, 1) := by decide +kernel
theorem dL_canTake_17 : decode cL_canTake 17 = .ok (.goto 11, 3) := by decide +kernel
theorem dL_canTake_20 : decode cL_canTake 20 = .ok (.astore 4, 2) := by decide +kernel
theorem dL_canTake_22 : decode cL_canTake 22 = .ok (.iconst 1, 1) := by decide +kernel
theorem dL_canTake_23 : decode cL_canTake 23 = .ok (.ireturn, 1) := by decide +kernel
theorem dL_canTake_24 : decode cL_canTake 24 = .ok (.astore 4, 2) := by decide +kernel
theorem dL_canTake_26 : decode cL_canTake 26 = .ok (.iconst 2, 1) := by decide +kernel
theorem dL_canTake_27 : decode cL_canTake 27 = .ok (.ireturn, 1) := by decide +kernel
theorem dL_canTake_28 : decode cL_canTake 28 = .ok (.iconst 0, 1) := by decide +kernel
theorem dL_canTake_29 : decode cL_canTake 29 = .ok (.ireturn, 1) := by decide +kernel
theorem dL_goesTo_0 : decode cL_goesTo 0 = .ok (.aload_n 2, 1) := by decide +kernel
theorem dL_goesTo_1 : decode cL_goesTo 1 = .ok (.iconst 0, 1) := by decide +kernel
theorem dL_goesTo_2 : decode cL_goesTo 2 = .ok (.aload_n 0, 1) := by decide +kernel
theorem dL_goesTo_3 : decode cL_goesTo 3 = .ok (.iload_n 1, 1) := by decide +kernel
theorem dL_goesTo_4 : decode cL_goesTo 4 = .ok (.invokevirtual 57, 3) := by decide +kernel
theorem dL_goesTo_7 : decode cL_goesTo 7 = .ok (.i2l, 1) := by decide +kernel
theorem dL_goesTo_8 : decode cL_goesTo 8 = .ok (.lastore, 1) := by decide +kernel
theorem dL_goesTo_9 : decode cL_goesTo 9 = .ok (.goto 6, 3) := by decide +kernel
theorem dL_goesTo_12 : decode cL_goesTo 12 = .ok (.astore_n 3, 1) := by decide +kernel
theorem dL_goesTo_13 : decode cL_goesTo 13 = .ok (.iconst 1, 1) := by decide +kernel
theorem dL_goesTo_14 : decode cL_goesTo 14 = .ok (.ireturn, 1) := by decide +kernel
theorem dL_goesTo_15 : decode cL_goesTo 15 = .ok (.iconst 0, 1) := by decide +kernel
theorem dL_goesTo_16 : decode cL_goesTo 16 = .ok (.ireturn, 1) := by decide +kernel
theorem dL_status_0 : decode cL_status 0 = .ok (.aload_n 2, 1) := by decide +kernel
theorem dL_status_1 : decode cL_status 1 = .ok (.iconst 0, 1) := by decide +kernel
theorem dL_status_2 : decode cL_status 2 = .ok (.aload_n 0, 1) := by decide +kernel
theorem dL_status_3 : decode cL_status 3 = .ok (.iload_n 1, 1) := by decide +kernel
theorem dL_status_4 : decode cL_status 4 = .ok (.invokevirtual 60, 3) := by decide +kernel
theorem dL_status_7 : decode cL_status 7 = .ok (.i2l, 1) := by decide +kernel
theorem dL_status_8 : decode cL_status 8 = .ok (.lastore, 1) := by decide +kernel
theorem dL_status_9 : decode cL_status 9 = .ok (.goto 6, 3) := by decide +kernel
theorem dL_status_12 : decode cL_status 12 = .ok (.astore_n 3, 1) := by decide +kernel
theorem dL_status_13 : decode cL_status 13 = .ok (.iconst 1, 1) := by decide +kernel
theorem dL_status_14 : decode cL_status 14 = .ok (.ireturn, 1) := by decide +kernel
theorem dL_status_15 : decode cL_status 15 = .ok (.iconst 0, 1) := by decide +kernel
theorem dL_status_16 : decode cL_status 16 = .ok (.ireturn, 1) := by decide +kernel
theorem dL_timeOf_0 : decode cL_timeOf 0 = .ok (.aload_n 2, 1) := by decide +kernel
theorem dL_timeOf_1 : decode cL_timeOf 1 = .ok (.iconst 0, 1) := by decide +kernel
theorem dL_timeOf_2 : decode cL_timeOf 2 = .ok (.aload_n 0, 1) := by decide +kernel
theorem dL_timeOf_3 : decode cL_timeOf 3 = .ok (.iload_n 1, 1) := by decide +kernel
theorem dL_timeOf_4 : decode cL_timeOf 4 = .ok (.invokevirtual 64, 3) := by decide +kernel
theorem dL_timeOf_7 : decode cL_timeOf 7 = .ok (.i2l, 1) := by decide +kernel
theorem dL_timeOf_8 : decode cL_timeOf 8 = .ok (.lastore, 1) := by decide +kernel
theorem dL_timeOf_9 : decode cL_timeOf 9 = .ok (.goto 6, 3) := by decide +kernel
theorem dL_timeOf_12 : decode cL_timeOf 12 = .ok (.astore_n 3, 1) := by decide +kernel
theorem dL_timeOf_13 : decode cL_timeOf 13 = .ok (.iconst 1, 1) := by decide +kernel
theorem dL_timeOf_14 : decode cL_timeOf 14 = .ok (.ireturn, 1) := by decide +kernel
theorem dL_timeOf_15 : decode cL_timeOf 15 = .ok (.iconst 0, 1) := by decide +kernel
theorem dL_timeOf_16 : decode cL_timeOf 16 = .ok (.ireturn, 1) := by decide +kernel
theorem dL_stateOf_0 : decode cL_stateOf 0 = .ok (.aload_n 3, 1) := by decide +kernel
theorem dL_stateOf_1 : decode cL_stateOf 1 = .ok (.iconst 0, 1) := by decide +kernel
theorem dL_stateOf_2 : decode cL_stateOf 2 = .ok (.aload_n 0, 1) := by decide +kernel
theorem dL_stateOf_3 : decode cL_stateOf 3 = .ok (.iload_n 1, 1) := by decide +kernel
theorem dL_stateOf_4 : decode cL_stateOf 4 = .ok (.iload_n 2, 1) := by decide +kernel
theorem dL_stateOf_5 : decode cL_stateOf 5 = .ok (.invokevirtual 67, 3) := by decide +kernel
theorem dL_stateOf_8 : decode cL_stateOf 8 = .ok (.i2l, 1) := by decide +kernel
theorem dL_stateOf_9 : decode cL_stateOf 9 = .ok (.lastore, 1) := by decide +kernel
theorem dL_stateOf_10 : decode cL_stateOf 10 = .ok (.goto 11, 3) := by decide +kernel
theorem dL_stateOf_13 : decode cL_stateOf 13 = .ok (.astore 4, 2) := by decide +kernel
theorem dL_stateOf_15 : decode cL_stateOf 15 = .ok (.iconst 1, 1) := by decide +kernel
theorem dL_stateOf_16 : decode cL_stateOf 16 = .ok (.ireturn, 1) := by decide +kernel
theorem dL_stateOf_17 : decode cL_stateOf 17 = .ok (.astore 4, 2) := by decide +kernel
theorem dL_stateOf_19 : decode cL_stateOf 19 = .ok (.iconst 2, 1) := by decide +kernel
theorem dL_stateOf_20 : decode cL_stateOf 20 = .ok (.ireturn, 1) := by decide +kernel
theorem dL_stateOf_21 : decode cL_stateOf 21 = .ok (.iconst 0, 1) := by decide +kernel
theorem dL_stateOf_22 : decode cL_stateOf 22 = .ok (.ireturn, 1) := by decide +kernel
theorem dL_predicted_0 : decode cL_predicted 0 = .ok (.aload 4, 2) := by decide +kernel
theorem dL_predicted_2 : decode cL_predicted 2 = .ok (.iconst 0, 1) := by decide +kernel
theorem dL_predicted_3 : decode cL_predicted 3 = .ok (.aload_n 0, 1) := by decide +kernel
theorem dL_predicted_4 : decode cL_predicted 4 = .ok (.iload_n 1, 1) := by decide +kernel
theorem dL_predicted_5 : decode cL_predicted 5 = .ok (.iload_n 2, 1) := by decide +kernel
theorem dL_predicted_6 : decode cL_predicted 6 = .ok (.iload_n 3, 1) := by decide +kernel
theorem dL_predicted_7 : decode cL_predicted 7 = .ok (.invokevirtual 70, 3) := by decide +kernel
theorem dL_predicted_10 : decode cL_predicted 10 = .ok (.i2l, 1) := by decide +kernel
theorem dL_predicted_11 : decode cL_predicted 11 = .ok (.lastore, 1) := by decide +kernel
theorem dL_predicted_12 : decode cL_predicted 12 = .ok (.goto 11, 3) := by decide +kernel
theorem dL_predicted_15 : decode cL_predicted 15 = .ok (.astore 5, 2) := by decide +kernel
theorem dL_predicted_17 : decode cL_predicted 17 = .ok (.iconst 1, 1) := by decide +kernel
theorem dL_predicted_18 : decode cL_predicted 18 = .ok (.ireturn, 1) := by decide +kernel
theorem dL_predicted_19 : decode cL_predicted 19 = .ok (.astore 5, 2) := by decide +kernel
theorem dL_predicted_21 : decode cL_predicted 21 = .ok (.iconst 2, 1) := by decide +kernel
theorem dL_predicted_22 : decode cL_predicted 22 = .ok (.ireturn, 1) := by decide +kernel
theorem dL_predicted_23 : decode cL_predicted 23 = .ok (.iconst 0, 1) := by decide +kernel
theorem dL_predicted_24 : decode cL_predicted 24 = .ok (.ireturn, 1) := by decide +kernel
theorem dL_hits_0 : decode cL_hits 0 = .ok (.aload_n 2, 1) := by decide +kernel
theorem dL_hits_1 : decode cL_hits 1 = .ok (.iconst 0, 1) := by decide +kernel
theorem dL_hits_2 : decode cL_hits 2 = .ok (.aload_n 0, 1) := by decide +kernel
theorem dL_hits_3 : decode cL_hits 3 = .ok (.iload_n 1, 1) := by decide +kernel
theorem dL_hits_4 : decode cL_hits 4 = .ok (.invokevirtual 74, 3) := by decide +kernel
theorem dL_hits_7 : decode cL_hits 7 = .ok (.i2l, 1) := by decide +kernel
theorem dL_hits_8 : decode cL_hits 8 = .ok (.lastore, 1) := by decide +kernel
theorem dL_hits_9 : decode cL_hits 9 = .ok (.goto 6, 3) := by decide +kernel
theorem dL_hits_12 : decode cL_hits 12 = .ok (.astore_n 3, 1) := by decide +kernel
theorem dL_hits_13 : decode cL_hits 13 = .ok (.iconst 1, 1) := by decide +kernel
theorem dL_hits_14 : decode cL_hits 14 = .ok (.ireturn, 1) := by decide +kernel
theorem dL_hits_15 : decode cL_hits 15 = .ok (.iconst 0, 1) := by decide +kernel
theorem dL_hits_16 : decode cL_hits 16 = .ok (.ireturn, 1) := by decide +kernel
theorem dL_misses_0 : decode cL_misses 0 = .ok (.aload_n 2, 1) := by decide +kernel
theorem dL_misses_1 : decode cL_misses 1 = .ok (.iconst 0, 1) := by decide +kernel
theorem dL_misses_2 : decode cL_misses 2 = .ok (.aload_n 0, 1) := by decide +kernel
theorem dL_misses_3 : decode cL_misses 3 = .ok (.iload_n 1, 1) := by decide +kernel
theorem dL_misses_4 : decode cL_misses 4 = .ok (.invokevirtual 77, 3) := by decide +kernel
theorem dL_misses_7 : decode cL_misses 7 = .ok (.i2l, 1) := by decide +kernel
theorem dL_misses_8 : decode cL_misses 8 = .ok (.lastore, 1) := by decide +kernel
theorem dL_misses_9 : decode cL_misses 9 = .ok (.goto 6, 3) := by decide +kernel
theorem dL_misses_12 : decode cL_misses 12 = .ok (.astore_n 3, 1) := by decide +kernel
theorem dL_misses_13 : decode cL_misses 13 = .ok (.iconst 1, 1) := by decide +kernel
theorem dL_misses_14 : decode cL_misses 14 = .ok (.ireturn, 1) := by decide +kernel
theorem dL_misses_15 : decode cL_misses 15 = .ok (.iconst 0, 1) := by decide +kernel
theorem dL_misses_16 : decode cL_misses 16 = .ok (.ireturn, 1) := by decide +kernel
theorem dL_mergedInto_0 : decode cL_mergedInto 0 = .ok (.aload_n 2, 1) := by decide +kernel
theorem dL_mergedInto_1 : decode cL_mergedInto 1 = .ok (.iconst 0, 1) := by decide +kernel
theorem dL_mergedInto_2 : decode cL_mergedInto 2 = .ok (.aload_n 0, 1) := by decide +kernel
theorem dL_mergedInto_3 : decode cL_mergedInto 3 = .ok (.iload_n 1, 1) := by decide +kernel
theorem dL_mergedInto_4 : decode cL_mergedInto 4 = .ok (.invokevirtual 80, 3) := by decide +kernel
theorem dL_mergedInto_7 : decode cL_mergedInto 7 = .ok (.i2l, 1) := by decide +kernel
theorem dL_mergedInto_8 : decode cL_mergedInto 8 = .ok (.lastore, 1) := by decide +kernel
theorem dL_mergedInto_9 : decode cL_mergedInto 9 = .ok (.goto 9, 3) := by decide +kernel
theorem dL_mergedInto_12 : decode cL_mergedInto 12 = .ok (.astore_n 3, 1) := by decide +kernel
theorem dL_mergedInto_13 : decode cL_mergedInto 13 = .ok (.iconst 1, 1) := by decide +kernel
theorem dL_mergedInto_14 : decode cL_mergedInto 14 = .ok (.ireturn, 1) := by decide +kernel
theorem dL_mergedInto_15 : decode cL_mergedInto 15 = .ok (.astore_n 3, 1) := by decide +kernel
theorem dL_mergedInto_16 : decode cL_mergedInto 16 = .ok (.iconst 2, 1) := by decide +kernel
theorem dL_mergedInto_17 : decode cL_mergedInto 17 = .ok (.ireturn, 1) := by decide +kernel
theorem dL_mergedInto_18 : decode cL_mergedInto 18 = .ok (.iconst 0, 1) := by decide +kernel
theorem dL_mergedInto_19 : decode cL_mergedInto 19 = .ok (.ireturn, 1) := by decide +kernel
theorem dL_historyLength_0 : decode cL_historyLength 0 = .ok (.aload_n 2, 1) := by decide +kernel
theorem dL_historyLength_1 : decode cL_historyLength 1 = .ok (.iconst 0, 1) := by decide +kernel
theorem dL_historyLength_2 : decode cL_historyLength 2 = .ok (.aload_n 0, 1) := by decide +kernel
theorem dL_historyLength_3 : decode cL_historyLength 3 = .ok (.iload_n 1, 1) := by decide +kernel
theorem dL_historyLength_4 : decode cL_historyLength 4 = .ok (.invokevirtual 83, 3) := by decide +kernel
theorem dL_historyLength_7 : decode cL_historyLength 7 = .ok (.i2l, 1) := by decide +kernel
theorem dL_historyLength_8 : decode cL_historyLength 8 = .ok (.lastore, 1) := by decide +kernel
theorem dL_historyLength_9 : decode cL_historyLength 9 = .ok (.goto 6, 3) := by decide +kernel
theorem dL_historyLength_12 : decode cL_historyLength 12 = .ok (.astore_n 3, 1) := by decide +kernel
theorem dL_historyLength_13 : decode cL_historyLength 13 = .ok (.iconst 1, 1) := by decide +kernel
theorem dL_historyLength_14 : decode cL_historyLength 14 = .ok (.ireturn, 1) := by decide +kernel
theorem dL_historyLength_15 : decode cL_historyLength 15 = .ok (.iconst 0, 1) := by decide +kernel
theorem dL_historyLength_16 : decode cL_historyLength 16 = .ok (.ireturn, 1) := by decide +kernel
theorem dL_historyAt_0 : decode cL_historyAt 0 = .ok (.aload_n 3, 1) := by decide +kernel
theorem dL_historyAt_1 : decode cL_historyAt 1 = .ok (.iconst 0, 1) := by decide +kernel
theorem dL_historyAt_2 : decode cL_historyAt 2 = .ok (.aload_n 0, 1) := by decide +kernel
theorem dL_historyAt_3 : decode cL_historyAt 3 = .ok (.iload_n 1, 1) := by decide +kernel
theorem dL_historyAt_4 : decode cL_historyAt 4 = .ok (.iload_n 2, 1) := by decide +kernel
theorem dL_historyAt_5 : decode cL_historyAt 5 = .ok (.invokevirtual 86, 3) := by decide +kernel
theorem dL_historyAt_8 : decode cL_historyAt 8 = .ok (.i2l, 1) := by decide +kernel
theorem dL_historyAt_9 : decode cL_historyAt 9 = .ok (.lastore, 1) := by decide +kernel
theorem dL_historyAt_10 : decode cL_historyAt 10 = .ok (.goto 11, 3) := by decide +kernel
theorem dL_historyAt_13 : decode cL_historyAt 13 = .ok (.astore 4, 2) := by decide +kernel
theorem dL_historyAt_15 : decode cL_historyAt 15 = .ok (.iconst 1, 1) := by decide +kernel
theorem dL_historyAt_16 : decode cL_historyAt 16 = .ok (.ireturn, 1) := by decide +kernel
theorem dL_historyAt_17 : decode cL_historyAt 17 = .ok (.astore 4, 2) := by decide +kernel
theorem dL_historyAt_19 : decode cL_historyAt 19 = .ok (.iconst 2, 1) := by decide +kernel
theorem dL_historyAt_20 : decode cL_historyAt 20 = .ok (.ireturn, 1) := by decide +kernel
theorem dL_historyAt_21 : decode cL_historyAt 21 = .ok (.iconst 0, 1) := by decide +kernel
theorem dL_historyAt_22 : decode cL_historyAt 22 = .ok (.ireturn, 1) := by decide +kernel
theorem dL_quality_0 : decode cL_quality 0 = .ok (.aload_n 2, 1) := by decide +kernel
theorem dL_quality_1 : decode cL_quality 1 = .ok (.iconst 0, 1) := by decide +kernel
theorem dL_quality_2 : decode cL_quality 2 = .ok (.aload_n 0, 1) := by decide +kernel
theorem dL_quality_3 : decode cL_quality 3 = .ok (.iload_n 1, 1) := by decide +kernel
theorem dL_quality_4 : decode cL_quality 4 = .ok (.invokevirtual 90, 3) := by decide +kernel
theorem dL_quality_7 : decode cL_quality 7 = .ok (.i2l, 1) := by decide +kernel
theorem dL_quality_8 : decode cL_quality 8 = .ok (.lastore, 1) := by decide +kernel
theorem dL_quality_9 : decode cL_quality 9 = .ok (.goto 6, 3) := by decide +kernel
theorem dL_quality_12 : decode cL_quality 12 = .ok (.astore_n 3, 1) := by decide +kernel
theorem dL_quality_13 : decode cL_quality 13 = .ok (.iconst 1, 1) := by decide +kernel
theorem dL_quality_14 : decode cL_quality 14 = .ok (.ireturn, 1) := by decide +kernel
theorem dL_quality_15 : decode cL_quality 15 = .ok (.iconst 0, 1) := by decide +kernel
theorem dL_quality_16 : decode cL_quality 16 = .ok (.ireturn, 1) := by decide +kernel
theorem dL_countOf_0 : decode cL_countOf 0 = .ok (.aload_n 2, 1) := by decide +kernel
theorem dL_countOf_1 : decode cL_countOf 1 = .ok (.iconst 0, 1) := by decide +kernel
theorem dL_countOf_2 : decode cL_countOf 2 = .ok (.aload_n 0, 1) := by decide +kernel
theorem dL_countOf_3 : decode cL_countOf 3 = .ok (.iload_n 1, 1) := by decide +kernel
theorem dL_countOf_4 : decode cL_countOf 4 = .ok (.invokevirtual 93, 3) := by decide +kernel
theorem dL_countOf_7 : decode cL_countOf 7 = .ok (.i2l, 1) := by decide +kernel
theorem dL_countOf_8 : decode cL_countOf 8 = .ok (.lastore, 1) := by decide +kernel
theorem dL_countOf_9 : decode cL_countOf 9 = .ok (.goto 6, 3) := by decide +kernel
theorem dL_countOf_12 : decode cL_countOf 12 = .ok (.astore_n 3, 1) := by decide +kernel
theorem dL_countOf_13 : decode cL_countOf 13 = .ok (.iconst 1, 1) := by decide +kernel
theorem dL_countOf_14 : decode cL_countOf 14 = .ok (.ireturn, 1) := by decide +kernel
theorem dL_countOf_15 : decode cL_countOf 15 = .ok (.iconst 0, 1) := by decide +kernel
theorem dL_countOf_16 : decode cL_countOf 16 = .ok (.ireturn, 1) := by decide +kernel
theorem dL_nearest_0 : decode cL_nearest 0 = .ok (.aload 4, 2) := by decide +kernel
theorem dL_nearest_2 : decode cL_nearest 2 = .ok (.iconst 0, 1) := by decide +kernel
theorem dL_nearest_3 : decode cL_nearest 3 = .ok (.aload_n 0, 1) := by decide +kernel
theorem dL_nearest_4 : decode cL_nearest 4 = .ok (.iload_n 1, 1) := by decide +kernel
theorem dL_nearest_5 : decode cL_nearest 5 = .ok (.iload_n 2, 1) := by decide +kernel
theorem dL_nearest_6 : decode cL_nearest 6 = .ok (.iload_n 3, 1) := by decide +kernel
theorem dL_nearest_7 : decode cL_nearest 7 = .ok (.invokevirtual 97, 3) := by decide +kernel
theorem dL_nearest_10 : decode cL_nearest 10 = .ok (.i2l, 1) := by decide +kernel
theorem dL_nearest_11 : decode cL_nearest 11 = .ok (.lastore, 1) := by decide +kernel
theorem dL_nearest_12 : decode cL_nearest 12 = .ok (.goto 11, 3) := by decide +kernel
theorem dL_nearest_15 : decode cL_nearest 15 = .ok (.astore 5, 2) := by decide +kernel
theorem dL_nearest_17 : decode cL_nearest 17 = .ok (.iconst 1, 1) := by decide +kernel
theorem dL_nearest_18 : decode cL_nearest 18 = .ok (.ireturn, 1) := by decide +kernel
theorem dL_nearest_19 : decode cL_nearest 19 = .ok (.astore 5, 2) := by decide +kernel
theorem dL_nearest_21 : decode cL_nearest 21 = .ok (.iconst 2, 1) := by decide +kernel
theorem dL_nearest_22 : decode cL_nearest 22 = .ok (.ireturn, 1) := by decide +kernel
theorem dL_nearest_23 : decode cL_nearest 23 = .ok (.iconst 0, 1) := by decide +kernel
theorem dL_nearest_24 : decode cL_nearest 24 = .ok (.ireturn, 1) := by decide +kernel
theorem dL_takenShare_0 : decode cL_takenShare 0 = .ok (.aload_n 1, 1) := by decide +kernel
theorem dL_takenShare_1 : decode cL_takenShare 1 = .ok (.iconst 0, 1) := by decide +kernel
theorem dL_takenShare_2 : decode cL_takenShare 2 = .ok (.aload_n 0, 1) := by decide +kernel
theorem dL_takenShare_3 : decode cL_takenShare 3 = .ok (.invokevirtual 100, 3) := by decide +kernel
theorem dL_takenShare_6 : decode cL_takenShare 6 = .ok (.f2d, 1) := by decide +kernel
theorem dL_takenShare_7 : decode cL_takenShare 7 = .ok (.dastore, 1) := by decide +kernel
theorem dL_takenShare_8 : decode cL_takenShare 8 = .ok (.goto 6, 3) := by decide +kernel
theorem dL_takenShare_11 : decode cL_takenShare 11 = .ok (.astore_n 2, 1) := by decide +kernel
theorem dL_takenShare_12 : decode cL_takenShare 12 = .ok (.iconst 1, 1) := by decide +kernel
theorem dL_takenShare_13 : decode cL_takenShare 13 = .ok (.ireturn, 1) := by decide +kernel
theorem dL_takenShare_14 : decode cL_takenShare 14 = .ok (.iconst 0, 1) := by decide +kernel
theorem dL_takenShare_15 : decode cL_takenShare 15 = .ok (.ireturn, 1) := by decide +kernel
theorem dL_meanHits_0 : decode cL_meanHits 0 = .ok (.aload_n 1, 1) := by decide +kernel
theorem dL_meanHits_1 : decode cL_meanHits 1 = .ok (.iconst 0, 1) := by decide +kernel
theorem dL_meanHits_2 : decode cL_meanHits 2 = .ok (.aload_n 0, 1) := by decide +kernel
theorem dL_meanHits_3 : decode cL_meanHits 3 = .ok (.invokevirtual 106, 3) := by decide +kernel
theorem dL_meanHits_6 : decode cL_meanHits 6 = .ok (.dastore, 1) := by decide +kernel
theorem dL_meanHits_7 : decode cL_meanHits 7 = .ok (.goto 6, 3) := by decide +kernel
theorem dL_meanHits_10 : decode cL_meanHits 10 = .ok (.astore_n 2, 1) := by decide +kernel
theorem dL_meanHits_11 : decode cL_meanHits 11 = .ok (.iconst 1, 1) := by decide +kernel
theorem dL_meanHits_12 : decode cL_meanHits 12 = .ok (.ireturn, 1) := by decide +kernel
theorem dL_meanHits_13 : decode cL_meanHits 13 = .ok (.iconst 0, 1) := by decide +kernel
theorem dL_meanHits_14 : decode cL_meanHits 14 = .ok (.ireturn, 1) := by decide +kernel
theorem dL_law_0 : decode cL_law 0 = .ok (.new 8, 3) := by decide +kernel
theorem dL_law_3 : decode cL_law 3 = .ok (.dup, 1) := by decide +kernel
theorem dL_law_4 : decode cL_law 4 = .ok (.invokespecial 110, 3) := by decide +kernel
theorem dL_law_7 : decode cL_law 7 = .ok (.astore_n 1, 1) := by decide +kernel
theorem dL_law_8 : decode cL_law 8 = .ok (.new 111, 3) := by decide +kernel
theorem dL_law_11 : decode cL_law 11 = .ok (.dup, 1) := by decide +kernel
theorem dL_law_12 : decode cL_law 12 = .ok (.invokespecial 113, 3) := by decide +kernel
theorem dL_law_15 : decode cL_law 15 = .ok (.astore_n 2, 1) := by decide +kernel
theorem dL_law_16 : decode cL_law 16 = .ok (.iconst 1, 1) := by decide +kernel
theorem dL_law_17 : decode cL_law 17 = .ok (.newarray .long, 2) := by decide +kernel
theorem dL_law_19 : decode cL_law 19 = .ok (.astore_n 3, 1) := by decide +kernel
theorem dL_law_20 : decode cL_law 20 = .ok (.iconst 1, 1) := by decide +kernel
theorem dL_law_21 : decode cL_law 21 = .ok (.newarray .double, 2) := by decide +kernel
theorem dL_law_23 : decode cL_law 23 = .ok (.astore 4, 2) := by decide +kernel
theorem dL_law_25 : decode cL_law 25 = .ok (.iconst 0, 1) := by decide +kernel
theorem dL_law_26 : decode cL_law 26 = .ok (.istore 5, 2) := by decide +kernel
theorem dL_law_28 : decode cL_law 28 = .ok (.iload 5, 2) := by decide +kernel
theorem dL_law_30 : decode cL_law 30 = .ok (.aload_n 0, 1) := by decide +kernel
theorem dL_law_31 : decode cL_law 31 = .ok (.arraylength, 1) := by decide +kernel
theorem dL_law_32 : decode cL_law 32 = .ok (.iconst 5, 1) := by decide +kernel
theorem dL_law_33 : decode cL_law 33 = .ok (.isub, 1) := by decide +kernel
theorem dL_law_34 : decode cL_law 34 = .ok (.if_icmp .gt 1941, 3) := by decide +kernel
theorem dL_law_37 : decode cL_law 37 = .ok (.aload_n 0, 1) := by decide +kernel
theorem dL_law_38 : decode cL_law 38 = .ok (.iload 5, 2) := by decide +kernel
theorem dL_law_40 : decode cL_law 40 = .ok (.iaload, 1) := by decide +kernel
theorem dL_law_41 : decode cL_law 41 = .ok (.bipush 63, 2) := by decide +kernel
theorem dL_law_43 : decode cL_law 43 = .ok (.iand, 1) := by decide +kernel
theorem dL_law_44 : decode cL_law 44 = .ok (.tableswitch 1925 0 33 #[152, 232, 288, 356, 412, 480, 536, 592, 684, 697, 741, 754, 821, 896, 910, 924, 980, 993, 1006, 1062, 1118, 1186, 1282, 1338, 1394, 1450, 1506, 1574, 1630, 1688, 1768, 1781, 1794, 1860], 152) := by decide +kernel
theorem dL_law_196 : decode cL_law 196 = .ok (.aload_n 1, 1) := by decide +kernel
theorem dL_law_197 : decode cL_law 197 = .ok (.aload_n 0, 1) := by decide +kernel
theorem dL_law_198 : decode cL_law 198 = .ok (.iload 5, 2) := by decide +kernel
theorem dL_law_200 : decode cL_law 200 = .ok (.iconst 1, 1) := by decide +kernel
theorem dL_law_201 : decode cL_law 201 = .ok (.iadd, 1) := by decide +kernel
theorem dL_law_202 : decode cL_law 202 = .ok (.iaload, 1) := by decide +kernel
theorem dL_law_203 : decode cL_law 203 = .ok (.aload_n 0, 1) := by decide +kernel
theorem dL_law_204 : decode cL_law 204 = .ok (.iload 5, 2) := by decide +kernel
theorem dL_law_206 : decode cL_law 206 = .ok (.iconst 2, 1) := by decide +kernel
theorem dL_law_207 : decode cL_law 207 = .ok (.iadd, 1) := by decide +kernel
theorem dL_law_208 : decode cL_law 208 = .ok (.iaload, 1) := by decide +kernel
theorem dL_law_209 : decode cL_law 209 = .ok (.aload_n 0, 1) := by decide +kernel
theorem dL_law_210 : decode cL_law 210 = .ok (.iload 5, 2) := by decide +kernel
theorem dL_law_212 : decode cL_law 212 = .ok (.iconst 3, 1) := by decide +kernel
theorem dL_law_213 : decode cL_law 213 = .ok (.iadd, 1) := by decide +kernel
theorem dL_law_214 : decode cL_law 214 = .ok (.iaload, 1) := by decide +kernel
theorem dL_law_215 : decode cL_law 215 = .ok (.aload_n 3, 1) := by decide +kernel
theorem dL_law_216 : decode cL_law 216 = .ok (.invokestatic 114, 3) := by decide +kernel
theorem dL_law_219 : decode cL_law 219 = .ok (.istore 6, 2) := by decide +kernel
theorem dL_law_221 : decode cL_law 221 = .ok (.aload_n 2, 1) := by decide +kernel
theorem dL_law_222 : decode cL_law 222 = .ok (.aload_n 0, 1) := by decide +kernel
theorem dL_law_223 : decode cL_law 223 = .ok (.iload 5, 2) := by decide +kernel
theorem dL_law_225 : decode cL_law 225 = .ok (.iconst 1, 1) := by decide +kernel
theorem dL_law_226 : decode cL_law 226 = .ok (.iadd, 1) := by decide +kernel
theorem dL_law_227 : decode cL_law 227 = .ok (.iaload, 1) := by decide +kernel
theorem dL_law_228 : decode cL_law 228 = .ok (.aload_n 0, 1) := by decide +kernel
theorem dL_law_229 : decode cL_law 229 = .ok (.iload 5, 2) := by decide +kernel
theorem dL_law_231 : decode cL_law 231 = .ok (.iconst 2, 1) := by decide +kernel
theorem dL_law_232 : decode cL_law 232 = .ok (.iadd, 1) := by decide +kernel
theorem dL_law_233 : decode cL_law 233 = .ok (.iaload, 1) := by decide +kernel
theorem dL_law_234 : decode cL_law 234 = .ok (.aload_n 0, 1) := by decide +kernel
theorem dL_law_235 : decode cL_law 235 = .ok (.iload 5, 2) := by decide +kernel
theorem dL_law_237 : decode cL_law 237 = .ok (.iconst 3, 1) := by decide +kernel
theorem dL_law_238 : decode cL_law 238 = .ok (.iadd, 1) := by decide +kernel
theorem dL_law_239 : decode cL_law 239 = .ok (.iaload, 1) := by decide +kernel
theorem dL_law_240 : decode cL_law 240 = .ok (.invokevirtual 119, 3) := by decide +kernel
theorem dL_law_243 : decode cL_law 243 = .ok (.istore 7, 2) := by decide +kernel
theorem dL_law_245 : decode cL_law 245 = .ok (.aload_n 2, 1) := by decide +kernel
theorem dL_law_246 : decode cL_law 246 = .ok (.invokevirtual 120, 3) := by decide +kernel
theorem dL_law_249 : decode cL_law 249 = .ok (.iload 6, 2) := by decide +kernel
theorem dL_law_251 : decode cL_law 251 = .ok (.if_icmp .eq 5, 3) := by decide +kernel
theorem dL_law_254 : decode cL_law 254 = .ok (.iconst 0, 1) := by decide +kernel
theorem dL_law_255 : decode cL_law 255 = .ok (.ireturn, 1) := by decide +kernel
theorem dL_law_256 : decode cL_law 256 = .ok (.iload 6, 2) := by decide +kernel
theorem dL_law_258 : decode cL_law 258 = .ok (.ifCond .ne 15, 3) := by decide +kernel
theorem dL_law_261 : decode cL_law 261 = .ok (.aload_n 3, 1) := by decide +kernel
theorem dL_law_262 : decode cL_law 262 = .ok (.iconst 0, 1) := by decide +kernel
theorem dL_law_263 : decode cL_law 263 = .ok (.laload, 1) := by decide +kernel
theorem dL_law_264 : decode cL_law 264 = .ok (.iload 7, 2) := by decide +kernel
theorem dL_law_266 : decode cL_law 266 = .ok (.i2l, 1) := by decide +kernel
theorem dL_law_267 : decode cL_law 267 = .ok (.lcmp, 1) := by decide +kernel
theorem dL_law_268 : decode cL_law 268 = .ok (.ifCond .eq 5, 3) := by decide +kernel
theorem dL_law_271 : decode cL_law 271 = .ok (.iconst 0, 1) := by decide +kernel
theorem dL_law_272 : decode cL_law 272 = .ok (.ireturn, 1) := by decide +kernel
theorem dL_law_273 : decode cL_law 273 = .ok (.goto 1696, 3) := by decide +kernel
theorem dL_law_276 : decode cL_law 276 = .ok (.aload_n 1, 1) := by decide +kernel
theorem dL_law_277 : decode cL_law 277 = .ok (.aload_n 0, 1) := by decide +kernel
theorem dL_law_278 : decode cL_law 278 = .ok (.iload 5, 2) := by decide +kernel
theorem dL_law_280 : decode cL_law 280 = .ok (.iconst 1, 1) := by decide +kernel
theorem dL_law_281 : decode cL_law 281 = .ok (.iadd, 1) := by decide +kernel
theorem dL_law_282 : decode cL_law 282 = .ok (.iaload, 1) := by decide +kernel
theorem dL_law_283 : decode cL_law 283 = .ok (.aload_n 3, 1) := by decide +kernel
theorem dL_law_284 : decode cL_law 284 = .ok (.invokestatic 123, 3) := by decide +kernel
theorem dL_law_287 : decode cL_law 287 = .ok (.istore 6, 2) := by decide +kernel
theorem dL_law_289 : decode cL_law 289 = .ok (.aload_n 2, 1) := by decide +kernel
theorem dL_law_290 : decode cL_law 290 = .ok (.aload_n 0, 1) := by decide +kernel
theorem dL_law_291 : decode cL_law 291 = .ok (.iload 5, 2) := by decide +kernel
theorem dL_law_293 : decode cL_law 293 = .ok (.iconst 1, 1) := by decide +kernel
theorem dL_law_294 : decode cL_law 294 = .ok (.iadd, 1) := by decide +kernel
theorem dL_law_295 : decode cL_law 295 = .ok (.iaload, 1) := by decide +kernel
theorem dL_law_296 : decode cL_law 296 = .ok (.invokevirtual 126, 3) := by decide +kernel
theorem dL_law_299 : decode cL_law 299 = .ok (.istore 7, 2) := by decide +kernel
theorem dL_law_301 : decode cL_law 301 = .ok (.aload_n 2, 1) := by decide +kernel
theorem dL_law_302 : decode cL_law 302 = .ok (.invokevirtual 120, 3) := by decide +kernel
theorem dL_law_305 : decode cL_law 305 = .ok (.iload 6, 2) := by decide +kernel
theorem dL_law_307 : decode cL_law 307 = .ok (.if_icmp .eq 5, 3) := by decide +kernel
theorem dL_law_310 : decode cL_law 310 = .ok (.iconst 0, 1) := by decide +kernel
theorem dL_law_311 : decode cL_law 311 = .ok (.ireturn, 1) := by decide +kernel
theorem dL_law_312 : decode cL_law 312 = .ok (.iload 6, 2) := by decide +kernel
theorem dL_law_314 : decode cL_law 314 = .ok (.ifCond .ne 15, 3) := by decide +kernel
theorem dL_law_317 : decode cL_law 317 = .ok (.aload_n 3, 1) := by decide +kernel
theorem dL_law_318 : decode cL_law 318 = .ok (.iconst 0, 1) := by decide +kernel
theorem dL_law_319 : decode cL_law 319 = .ok (.laload, 1) := by decide +kernel
theorem dL_law_320 : decode cL_law 320 = .ok (.iload 7, 2) := by decide +kernel
theorem dL_law_322 : decode cL_law 322 = .ok (.i2l, 1) := by decide +kernel
theorem dL_law_323 : decode cL_law 323 = .ok (.lcmp, 1) := by decide +kernel
theorem dL_law_324 : decode cL_law 324 = .ok (.ifCond .eq 5, 3) := by decide +kernel
theorem dL_law_327 : decode cL_law 327 = .ok (.iconst 0, 1) := by decide +kernel
theorem dL_law_328 : decode cL_law 328 = .ok (.ireturn, 1) := by decide +kernel
theorem dL_law_329 : decode cL_law 329 = .ok (.goto 1640, 3) := by decide +kernel
theorem dL_law_332 : decode cL_law 332 = .ok (.aload_n 1, 1) := by decide +kernel
theorem dL_law_333 : decode cL_law 333 = .ok (.aload_n 0, 1) := by decide +kernel
theorem dL_law_334 : decode cL_law 334 = .ok (.iload 5, 2) := by decide +kernel
theorem dL_law_336 : decode cL_law 336 = .ok (.iconst 1, 1) := by decide +kernel
theorem dL_law_337 : decode cL_law 337 = .ok (.iadd, 1) := by decide +kernel
theorem dL_law_338 : decode cL_law 338 = .ok (.iaload, 1) := by decide +kernel
theorem dL_law_339 : decode cL_law 339 = .ok (.aload_n 0, 1) := by decide +kernel
theorem dL_law_340 : decode cL_law 340 = .ok (.iload 5, 2) := by decide +kernel
theorem dL_law_342 : decode cL_law 342 = .ok (.iconst 2, 1) := by decide +kernel
theorem dL_law_343 : decode cL_law 343 = .ok (.iadd, 1) := by decide +kernel
theorem dL_law_344 : decode cL_law 344 = .ok (.iaload, 1) := by decide +kernel
theorem dL_law_345 : decode cL_law 345 = .ok (.aload_n 3, 1) := by decide +kernel
theorem dL_law_346 : decode cL_law 346 = .ok (.invokestatic 127, 3) := by decide +kernel
theorem dL_law_349 : decode cL_law 349 = .ok (.istore 6, 2) := by decide +kernel
theorem dL_law_351 : decode cL_law 351 = .ok (.aload_n 2, 1) := by decide +kernel
theorem dL_law_352 : decode cL_law 352 = .ok (.aload_n 0, 1) := by decide +kernel
theorem dL_law_353 : decode cL_law 353 = .ok (.iload 5, 2) := by decide +kernel
theorem dL_law_355 : decode cL_law 355 = .ok (.iconst 1, 1) := by decide +kernel
theorem dL_law_356 : decode cL_law 356 = .ok (.iadd, 1) := by decide +kernel
theorem dL_law_357 : decode cL_law 357 = .ok (.iaload, 1) := by decide +kernel
theorem dL_law_358 : decode cL_law 358 = .ok (.aload_n 0, 1) := by decide +kernel
theorem dL_law_359 : decode cL_law 359 = .ok (.iload 5, 2) := by decide +kernel
theorem dL_law_361 : decode cL_law 361 = .ok (.iconst 2, 1) := by decide +kernel
theorem dL_law_362 : decode cL_law 362 = .ok (.iadd, 1) := by decide +kernel
theorem dL_law_363 : decode cL_law 363 = .ok (.iaload, 1) := by decide +kernel
theorem dL_law_364 : decode cL_law 364 = .ok (.invokevirtual 130, 3) := by decide +kernel
theorem dL_law_367 : decode cL_law 367 = .ok (.istore 7, 2) := by decide +kernel
theorem dL_law_369 : decode cL_law 369 = .ok (.aload_n 2, 1) := by decide +kernel
theorem dL_law_370 : decode cL_law 370 = .ok (.invokevirtual 120, 3) := by decide +kernel
theorem dL_law_373 : decode cL_law 373 = .ok (.iload 6, 2) := by decide +kernel
theorem dL_law_375 : decode cL_law 375 = .ok (.if_icmp .eq 5, 3) := by decide +kernel
theorem dL_law_378 : decode cL_law 378 = .ok (.iconst 0, 1) := by decide +kernel
theorem dL_law_379 : decode cL_law 379 = .ok (.ireturn, 1) := by decide +kernel
theorem dL_law_380 : decode cL_law 380 = .ok (.iload 6, 2) := by decide +kernel
theorem dL_law_382 : decode cL_law 382 = .ok (.ifCond .ne 15, 3) := by decide +kernel
theorem dL_law_385 : decode cL_law 385 = .ok (.aload_n 3, 1) := by decide +kernel
theorem dL_law_386 : decode cL_law 386 = .ok (.iconst 0, 1) := by decide +kernel
theorem dL_law_387 : decode cL_law 387 = .ok (.laload, 1) := by decide +kernel
theorem dL_law_388 : decode cL_law 388 = .ok (.iload 7, 2) := by decide +kernel
theorem dL_law_390 : decode cL_law 390 = .ok (.i2l, 1) := by decide +kernel
theorem dL_law_391 : decode cL_law 391 = .ok (.lcmp, 1) := by decide +kernel
theorem dL_law_392 : decode cL_law 392 = .ok (.ifCond .eq 5, 3) := by decide +kernel
theorem dL_law_395 : decode cL_law 395 = .ok (.iconst 0, 1) := by decide +kernel
theorem dL_law_396 : decode cL_law 396 = .ok (.ireturn, 1) := by decide +kernel
theorem dL_law_397 : decode cL_law 397 = .ok (.goto 1572, 3) := by decide +kernel
theorem dL_law_400 : decode cL_law 400 = .ok (.aload_n 1, 1) := by decide +kernel
theorem dL_law_401 : decode cL_law 401 = .ok (.aload_n 0, 1) := by decide +kernel
theorem dL_law_402 : decode cL_law 402 = .ok (.iload 5, 2) := by decide +kernel
theorem dL_law_404 : decode cL_law 404 = .ok (.iconst 1, 1) := by decide +kernel
theorem dL_law_405 : decode cL_law 405 = .ok (.iadd, 1) := by decide +kernel
theorem dL_law_406 : decode cL_law 406 = .ok (.iaload, 1) := by decide +kernel
theorem dL_law_407 : decode cL_law 407 = .ok (.aload_n 3, 1) := by decide +kernel
theorem dL_law_408 : decode cL_law 408 = .ok (.invokestatic 131, 3) := by decide +kernel
theorem dL_law_411 : decode cL_law 411 = .ok (.istore 6, 2) := by decide +kernel
theorem dL_law_413 : decode cL_law 413 = .ok (.aload_n 2, 1) := by decide +kernel
theorem dL_law_414 : decode cL_law 414 = .ok (.aload_n 0, 1) := by decide +kernel
theorem dL_law_415 : decode cL_law 415 = .ok (.iload 5, 2) := by decide +kernel
theorem dL_law_417 : decode cL_law 417 = .ok (.iconst 1, 1) := by decide +kernel
theorem dL_law_418 : decode cL_law 418 = .ok (.iadd, 1) := by decide +kernel
theorem dL_law_419 : decode cL_law 419 = .ok (.iaload, 1) := by decide +kernel
theorem dL_law_420 : decode cL_law 420 = .ok (.invokevirtual 133, 3) := by decide +kernel
theorem dL_law_423 : decode cL_law 423 = .ok (.istore 7, 2) := by decide +kernel
theorem dL_law_425 : decode cL_law 425 = .ok (.aload_n 2, 1) := by decide +kernel
theorem dL_law_426 : decode cL_law 426 = .ok (.invokevirtual 120, 3) := by decide +kernel
theorem dL_law_429 : decode cL_law 429 = .ok (.iload 6, 2) := by decide +kernel
theorem dL_law_431 : decode cL_law 431 = .ok (.if_icmp .eq 5, 3) := by decide +kernel
theorem dL_law_434 : decode cL_law 434 = .ok (.iconst 0, 1) := by decide +kernel
theorem dL_law_435 : decode cL_law 435 = .ok (.ireturn, 1) := by decide +kernel
theorem dL_law_436 : decode cL_law 436 = .ok (.iload 6, 2) := by decide +kernel
theorem dL_law_438 : decode cL_law 438 = .ok (.ifCond .ne 15, 3) := by decide +kernel
theorem dL_law_441 : decode cL_law 441 = .ok (.aload_n 3, 1) := by decide +kernel
theorem dL_law_442 : decode cL_law 442 = .ok (.iconst 0, 1) := by decide +kernel
theorem dL_law_443 : decode cL_law 443 = .ok (.laload, 1) := by decide +kernel
theorem dL_law_444 : decode cL_law 444 = .ok (.iload 7, 2) := by decide +kernel
theorem dL_law_446 : decode cL_law 446 = .ok (.i2l, 1) := by decide +kernel
theorem dL_law_447 : decode cL_law 447 = .ok (.lcmp, 1) := by decide +kernel
theorem dL_law_448 : decode cL_law 448 = .ok (.ifCond .eq 5, 3) := by decide +kernel
theorem dL_law_451 : decode cL_law 451 = .ok (.iconst 0, 1) := by decide +kernel
theorem dL_law_452 : decode cL_law 452 = .ok (.ireturn, 1) := by decide +kernel
theorem dL_law_453 : decode cL_law 453 = .ok (.goto 1516, 3) := by decide +kernel
theorem dL_law_456 : decode cL_law 456 = .ok (.aload_n 1, 1) := by decide +kernel
theorem dL_law_457 : decode cL_law 457 = .ok (.aload_n 0, 1) := by decide +kernel
theorem dL_law_458 : decode cL_law 458 = .ok (.iload 5, 2) := by decide +kernel
theorem dL_law_460 : decode cL_law 460 = .ok (.iconst 1, 1) := by decide +kernel
theorem dL_law_461 : decode cL_law 461 = .ok (.iadd, 1) := by decide +kernel
theorem dL_law_462 : decode cL_law 462 = .ok (.iaload, 1) := by decide +kernel
theorem dL_law_463 : decode cL_law 463 = .ok (.aload_n 0, 1) := by decide +kernel
theorem dL_law_464 : decode cL_law 464 = .ok (.iload 5, 2) := by decide +kernel
theorem dL_law_466 : decode cL_law 466 = .ok (.iconst 2, 1) := by decide +kernel
theorem dL_law_467 : decode cL_law 467 = .ok (.iadd, 1) := by decide +kernel
theorem dL_law_468 : decode cL_law 468 = .ok (.iaload, 1) := by decide +kernel
theorem dL_law_469 : decode cL_law 469 = .ok (.aload_n 3, 1) := by decide +kernel
theorem dL_law_470 : decode cL_law 470 = .ok (.invokestatic 134, 3) := by decide +kernel
theorem dL_law_473 : decode cL_law 473 = .ok (.istore 6, 2) := by decide +kernel
theorem dL_law_475 : decode cL_law 475 = .ok (.aload_n 2, 1) := by decide +kernel
theorem dL_law_476 : decode cL_law 476 = .ok (.aload_n 0, 1) := by decide +kernel
theorem dL_law_477 : decode cL_law 477 = .ok (.iload 5, 2) := by decide +kernel
theorem dL_law_479 : decode cL_law 479 = .ok (.iconst 1, 1) := by decide +kernel
theorem dL_law_480 : decode cL_law 480 = .ok (.iadd, 1) := by decide +kernel
theorem dL_law_481 : decode cL_law 481 = .ok (.iaload, 1) := by decide +kernel
theorem dL_law_482 : decode cL_law 482 = .ok (.aload_n 0, 1) := by decide +kernel
theorem dL_law_483 : decode cL_law 483 = .ok (.iload 5, 2) := by decide +kernel
theorem dL_law_485 : decode cL_law 485 = .ok (.iconst 2, 1) := by decide +kernel
theorem dL_law_486 : decode cL_law 486 = .ok (.iadd, 1) := by decide +kernel
theorem dL_law_487 : decode cL_law 487 = .ok (.iaload, 1) := by decide +kernel
theorem dL_law_488 : decode cL_law 488 = .ok (.invokevirtual 136, 3) := by decide +kernel
theorem dL_law_491 : decode cL_law 491 = .ok (.istore 7, 2) := by decide +kernel
theorem dL_law_493 : decode cL_law 493 = .ok (.aload_n 2, 1) := by decide +kernel
theorem dL_law_494 : decode cL_law 494 = .ok (.invokevirtual 120, 3) := by decide +kernel
theorem dL_law_497 : decode cL_law 497 = .ok (.iload 6, 2) := by decide +kernel
theorem dL_law_499 : decode cL_law 499 = .ok (.if_icmp .eq 5, 3) := by decide +kernel
theorem dL_law_502 : decode cL_law 502 = .ok (.iconst 0, 1) := by decide +kernel
theorem dL_law_503 : decode cL_law 503 = .ok (.ireturn, 1) := by decide +kernel
theorem dL_law_504 : decode cL_law 504 = .ok (.iload 6, 2) := by decide +kernel
theorem dL_law_506 : decode cL_law 506 = .ok (.ifCond .ne 15, 3) := by decide +kernel
theorem dL_law_509 : decode cL_law 509 = .ok (.aload_n 3, 1) := by decide +kernel
theorem dL_law_510 : decode cL_law 510 = .ok (.iconst 0, 1) := by decide +kernel
theorem dL_law_511 : decode cL_law 511 = .ok (.laload, 1) := by decide +kernel
theorem dL_law_512 : decode cL_law 512 = .ok (.iload 7, 2) := by decide +kernel
theorem dL_law_514 : decode cL_law 514 = .ok (.i2l, 1) := by decide +kernel
theorem dL_law_515 : decode cL_law 515 = .ok (.lcmp, 1) := by decide +kernel
theorem dL_law_516 : decode cL_law 516 = .ok (.ifCond .eq 5, 3) := by decide +kernel
theorem dL_law_519 : decode cL_law 519 = .ok (.iconst 0, 1) := by decide +kernel
theorem dL_law_520 : decode cL_law 520 = .ok (.ireturn, 1) := by decide +kernel
theorem dL_law_521 : decode cL_law 521 = .ok (.goto 1448, 3) := by decide +kernel
theorem dL_law_524 : decode cL_law 524 = .ok (.aload_n 1, 1) := by decide +kernel
theorem dL_law_525 : decode cL_law 525 = .ok (.aload_n 0, 1) := by decide +kernel
theorem dL_law_526 : decode cL_law 526 = .ok (.iload 5, 2) := by decide +kernel
theorem dL_law_528 : decode cL_law 528 = .ok (.iconst 1, 1) := by decide +kernel
theorem dL_law_529 : decode cL_law 529 = .ok (.iadd, 1) := by decide +kernel
theorem dL_law_530 : decode cL_law 530 = .ok (.iaload, 1) := by decide +kernel
theorem dL_law_531 : decode cL_law 531 = .ok (.aload_n 3, 1) := by decide +kernel
theorem dL_law_532 : decode cL_law 532 = .ok (.invokestatic 137, 3) := by decide +kernel
theorem dL_law_535 : decode cL_law 535 = .ok (.istore 6, 2) := by decide +kernel
theorem dL_law_537 : decode cL_law 537 = .ok (.aload_n 2, 1) := by decide +kernel
theorem dL_law_538 : decode cL_law 538 = .ok (.aload_n 0, 1) := by decide +kernel
theorem dL_law_539 : decode cL_law 539 = .ok (.iload 5, 2) := by decide +kernel
theorem dL_law_541 : decode cL_law 541 = .ok (.iconst 1, 1) := by decide +kernel
theorem dL_law_542 : decode cL_law 542 = .ok (.iadd, 1) := by decide +kernel
theorem dL_law_543 : decode cL_law 543 = .ok (.iaload, 1) := by decide +kernel
theorem dL_law_544 : decode cL_law 544 = .ok (.invokevirtual 139, 3) := by decide +kernel
theorem dL_law_547 : decode cL_law 547 = .ok (.istore 7, 2) := by decide +kernel
theorem dL_law_549 : decode cL_law 549 = .ok (.aload_n 2, 1) := by decide +kernel
theorem dL_law_550 : decode cL_law 550 = .ok (.invokevirtual 120, 3) := by decide +kernel
theorem dL_law_553 : decode cL_law 553 = .ok (.iload 6, 2) := by decide +kernel
theorem dL_law_555 : decode cL_law 555 = .ok (.if_icmp .eq 5, 3) := by decide +kernel
theorem dL_law_558 : decode cL_law 558 = .ok (.iconst 0, 1) := by decide +kernel
theorem dL_law_559 : decode cL_law 559 = .ok (.ireturn, 1) := by decide +kernel
theorem dL_law_560 : decode cL_law 560 = .ok (.iload 6, 2) := by decide +kernel
theorem dL_law_562 : decode cL_law 562 = .ok (.ifCond .ne 15, 3) := by decide +kernel
theorem dL_law_565 : decode cL_law 565 = .ok (.aload_n 3, 1) := by decide +kernel
theorem dL_law_566 : decode cL_law 566 = .ok (.iconst 0, 1) := by decide +kernel
theorem dL_law_567 : decode cL_law 567 = .ok (.laload, 1) := by decide +kernel
theorem dL_law_568 : decode cL_law 568 = .ok (.iload 7, 2) := by decide +kernel
theorem dL_law_570 : decode cL_law 570 = .ok (.i2l, 1) := by decide +kernel
theorem dL_law_571 : decode cL_law 571 = .ok (.lcmp, 1) := by decide +kernel
theorem dL_law_572 : decode cL_law 572 = .ok (.ifCond .eq 5, 3) := by decide +kernel
theorem dL_law_575 : decode cL_law 575 = .ok (.iconst 0, 1) := by decide +kernel
theorem dL_law_576 : decode cL_law 576 = .ok (.ireturn, 1) := by decide +kernel
theorem dL_law_577 : decode cL_law 577 = .ok (.goto 1392, 3) := by decide +kernel
theorem dL_law_580 : decode cL_law 580 = .ok (.aload_n 1, 1) := by decide +kernel
theorem dL_law_581 : decode cL_law 581 = .ok (.aload_n 0, 1) := by decide +kernel
theorem dL_law_582 : decode cL_law 582 = .ok (.iload 5, 2) := by decide +kernel
theorem dL_law_584 : decode cL_law 584 = .ok (.iconst 1, 1) := by decide +kernel
theorem dL_law_585 : decode cL_law 585 = .ok (.iadd, 1) := by decide +kernel
theorem dL_law_586 : decode cL_law 586 = .ok (.iaload, 1) := by decide +kernel
theorem dL_law_587 : decode cL_law 587 = .ok (.aload_n 3, 1) := by decide +kernel
theorem dL_law_588 : decode cL_law 588 = .ok (.invokestatic 140, 3) := by decide +kernel
theorem dL_law_591 : decode cL_law 591 = .ok (.istore 6, 2) := by decide +kernel
theorem dL_law_593 : decode cL_law 593 = .ok (.aload_n 2, 1) := by decide +kernel
theorem dL_law_594 : decode cL_law 594 = .ok (.aload_n 0, 1) := by decide +kernel
theorem dL_law_595 : decode cL_law 595 = .ok (.iload 5, 2) := by decide +kernel
theorem dL_law_597 : decode cL_law 597 = .ok (.iconst 1, 1) := by decide +kernel
theorem dL_law_598 : decode cL_law 598 = .ok (.iadd, 1) := by decide +kernel
theorem dL_law_599 : decode cL_law 599 = .ok (.iaload, 1) := by decide +kernel
theorem dL_law_600 : decode cL_law 600 = .ok (.invokevirtual 142, 3) := by decide +kernel
theorem dL_law_603 : decode cL_law 603 = .ok (.istore 7, 2) := by decide +kernel
theorem dL_law_605 : decode cL_law 605 = .ok (.aload_n 2, 1) := by decide +kernel
theorem dL_law_606 : decode cL_law 606 = .ok (.invokevirtual 120, 3) := by decide +kernel
theorem dL_law_609 : decode cL_law 609 = .ok (.iload 6, 2) := by decide +kernel
theorem dL_law_611 : decode cL_law 611 = .ok (.if_icmp .eq 5, 3) := by decide +kernel
theorem dL_law_614 : decode cL_law 614 = .ok (.iconst 0, 1) := by decide +kernel
theorem dL_law_615 : decode cL_law 615 = .ok (.ireturn, 1) := by decide +kernel
theorem dL_law_616 : decode cL_law 616 = .ok (.iload 6, 2) := by decide +kernel
theorem dL_law_618 : decode cL_law 618 = .ok (.ifCond .ne 15, 3) := by decide +kernel
theorem dL_law_621 : decode cL_law 621 = .ok (.aload_n 3, 1) := by decide +kernel
theorem dL_law_622 : decode cL_law 622 = .ok (.iconst 0, 1) := by decide +kernel
theorem dL_law_623 : decode cL_law 623 = .ok (.laload, 1) := by decide +kernel
theorem dL_law_624 : decode cL_law 624 = .ok (.iload 7, 2) := by decide +kernel
theorem dL_law_626 : decode cL_law 626 = .ok (.i2l, 1) := by decide +kernel
theorem dL_law_627 : decode cL_law 627 = .ok (.lcmp, 1) := by decide +kernel
theorem dL_law_628 : decode cL_law 628 = .ok (.ifCond .eq 5, 3) := by decide +kernel
theorem dL_law_631 : decode cL_law 631 = .ok (.iconst 0, 1) := by decide +kernel
theorem dL_law_632 : decode cL_law 632 = .ok (.ireturn, 1) := by decide +kernel
theorem dL_law_633 : decode cL_law 633 = .ok (.goto 1336, 3) := by decide +kernel
theorem dL_law_636 : decode cL_law 636 = .ok (.aload_n 1, 1) := by decide +kernel
theorem dL_law_637 : decode cL_law 637 = .ok (.aload_n 0, 1) := by decide +kernel
theorem dL_law_638 : decode cL_law 638 = .ok (.iload 5, 2) := by decide +kernel
theorem dL_law_640 : decode cL_law 640 = .ok (.iconst 1, 1) := by decide +kernel
theorem dL_law_641 : decode cL_law 641 = .ok (.iadd, 1) := by decide +kernel
theorem dL_law_642 : decode cL_law 642 = .ok (.iaload, 1) := by decide +kernel
theorem dL_law_643 : decode cL_law 643 = .ok (.aload_n 0, 1) := by decide +kernel
theorem dL_law_644 : decode cL_law 644 = .ok (.iload 5, 2) := by decide +kernel
theorem dL_law_646 : decode cL_law 646 = .ok (.iconst 2, 1) := by decide +kernel
theorem dL_law_647 : decode cL_law 647 = .ok (.iadd, 1) := by decide +kernel
theorem dL_law_648 : decode cL_law 648 = .ok (.iaload, 1) := by decide +kernel
theorem dL_law_649 : decode cL_law 649 = .ok (.aload_n 0, 1) := by decide +kernel
theorem dL_law_650 : decode cL_law 650 = .ok (.iload 5, 2) := by decide +kernel
theorem dL_law_652 : decode cL_law 652 = .ok (.iconst 3, 1) := by decide +kernel
theorem dL_law_653 : decode cL_law 653 = .ok (.iadd, 1) := by decide +kernel
theorem dL_law_654 : decode cL_law 654 = .ok (.iaload, 1) := by decide +kernel
theorem dL_law_655 : decode cL_law 655 = .ok (.aload_n 0, 1) := by decide +kernel
theorem dL_law_656 : decode cL_law 656 = .ok (.iload 5, 2) := by decide +kernel
theorem dL_law_658 : decode cL_law 658 = .ok (.iconst 4, 1) := by decide +kernel
theorem dL_law_659 : decode cL_law 659 = .ok (.iadd, 1) := by decide +kernel
theorem dL_law_660 : decode cL_law 660 = .ok (.iaload, 1) := by decide +kernel
theorem dL_law_661 : decode cL_law 661 = .ok (.aload_n 3, 1) := by decide +kernel
theorem dL_law_662 : decode cL_law 662 = .ok (.invokestatic 143, 3) := by decide +kernel
theorem dL_law_665 : decode cL_law 665 = .ok (.istore 6, 2) := by decide +kernel
theorem dL_law_667 : decode cL_law 667 = .ok (.aload_n 2, 1) := by decide +kernel
theorem dL_law_668 : decode cL_law 668 = .ok (.aload_n 0, 1) := by decide +kernel
theorem dL_law_669 : decode cL_law 669 = .ok (.iload 5, 2) := by decide +kernel
theorem dL_law_671 : decode cL_law 671 = .ok (.iconst 1, 1) := by decide +kernel
theorem dL_law_672 : decode cL_law 672 = .ok (.iadd, 1) := by decide +kernel
theorem dL_law_673 : decode cL_law 673 = .ok (.iaload, 1) := by decide +kernel
theorem dL_law_674 : decode cL_law 674 = .ok (.aload_n 0, 1) := by decide +kernel
theorem dL_law_675 : decode cL_law 675 = .ok (.iload 5, 2) := by decide +kernel
theorem dL_law_677 : decode cL_law 677 = .ok (.iconst 2, 1) := by decide +kernel
theorem dL_law_678 : decode cL_law 678 = .ok (.iadd, 1) := by decide +kernel
theorem dL_law_679 : decode cL_law 679 = .ok (.iaload, 1) := by decide +kernel
theorem dL_law_680 : decode cL_law 680 = .ok (.aload_n 0, 1) := by decide +kernel
theorem dL_law_681 : decode cL_law 681 = .ok (.iload 5, 2) := by decide +kernel
theorem dL_law_683 : decode cL_law 683 = .ok (.iconst 3, 1) := by decide +kernel
theorem dL_law_684 : decode cL_law 684 = .ok (.iadd, 1) := by decide +kernel
theorem dL_law_685 : decode cL_law 685 = .ok (.iaload, 1) := by decide +kernel
theorem dL_law_686 : decode cL_law 686 = .ok (.aload_n 0, 1) := by decide +kernel
theorem dL_law_687 : decode cL_law 687 = .ok (.iload 5, 2) := by decide +kernel
theorem dL_law_689 : decode cL_law 689 = .ok (.iconst 4, 1) := by decide +kernel
theorem dL_law_690 : decode cL_law 690 = .ok (.iadd, 1) := by decide +kernel
theorem dL_law_691 : decode cL_law 691 = .ok (.iaload, 1) := by decide +kernel
theorem dL_law_692 : decode cL_law 692 = .ok (.invokevirtual 146, 3) := by decide +kernel
theorem dL_law_695 : decode cL_law 695 = .ok (.istore 7, 2) := by decide +kernel
theorem dL_law_697 : decode cL_law 697 = .ok (.aload_n 2, 1) := by decide +kernel
theorem dL_law_698 : decode cL_law 698 = .ok (.invokevirtual 120, 3) := by decide +kernel
theorem dL_law_701 : decode cL_law 701 = .ok (.iload 6, 2) := by decide +kernel
theorem dL_law_703 : decode cL_law 703 = .ok (.if_icmp .eq 5, 3) := by decide +kernel
theorem dL_law_706 : decode cL_law 706 = .ok (.iconst 0, 1) := by decide +kernel
theorem dL_law_707 : decode cL_law 707 = .ok (.ireturn, 1) := by decide +kernel
theorem dL_law_708 : decode cL_law 708 = .ok (.iload 6, 2) := by decide +kernel
theorem dL_law_710 : decode cL_law 710 = .ok (.ifCond .ne 15, 3) := by decide +kernel
theorem dL_law_713 : decode cL_law 713 = .ok (.aload_n 3, 1) := by decide +kernel
theorem dL_law_714 : decode cL_law 714 = .ok (.iconst 0, 1) := by decide +kernel
theorem dL_law_715 : decode cL_law 715 = .ok (.laload, 1) := by decide +kernel
theorem dL_law_716 : decode cL_law 716 = .ok (.iload 7, 2) := by decide +kernel
theorem dL_law_718 : decode cL_law 718 = .ok (.i2l, 1) := by decide +kernel
theorem dL_law_719 : decode cL_law 719 = .ok (.lcmp, 1) := by decide +kernel
theorem dL_law_720 : decode cL_law 720 = .ok (.ifCond .eq 5, 3) := by decide +kernel
theorem dL_law_723 : decode cL_law 723 = .ok (.iconst 0, 1) := by decide +kernel
theorem dL_law_724 : decode cL_law 724 = .ok (.ireturn, 1) := by decide +kernel
theorem dL_law_725 : decode cL_law 725 = .ok (.goto 1244, 3) := by decide +kernel
theorem dL_law_728 : decode cL_law 728 = .ok (.aload_n 1, 1) := by decide +kernel
theorem dL_law_729 : decode cL_law 729 = .ok (.invokevirtual 147, 3) := by decide +kernel
theorem dL_law_732 : decode cL_law 732 = .ok (.aload_n 2, 1) := by decide +kernel
theorem dL_law_733 : decode cL_law 733 = .ok (.invokevirtual 150, 3) := by decide +kernel
theorem dL_law_736 : decode cL_law 736 = .ok (.if_icmp .eq 1233, 3) := by decide +kernel
theorem dL_law_739 : decode cL_law 739 = .ok (.iconst 0, 1) := by decide +kernel
theorem dL_law_740 : decode cL_law 740 = .ok (.ireturn, 1) := by decide +kernel
theorem dL_law_741 : decode cL_law 741 = .ok (.aload_n 1, 1) := by decide +kernel
theorem dL_law_742 : decode cL_law 742 = .ok (.aload_n 3, 1) := by decide +kernel
theorem dL_law_743 : decode cL_law 743 = .ok (.invokestatic 151, 3) := by decide +kernel
theorem dL_law_746 : decode cL_law 746 = .ok (.istore 6, 2) := by decide +kernel
theorem dL_law_748 : decode cL_law 748 = .ok (.aload_n 2, 1) := by decide +kernel
theorem dL_law_749 : decode cL_law 749 = .ok (.invokevirtual 154, 3) := by decide +kernel
theorem dL_law_752 : decode cL_law 752 = .ok (.istore 7, 2) := by decide +kernel
theorem dL_law_754 : decode cL_law 754 = .ok (.aload_n 2, 1) := by decide +kernel
theorem dL_law_755 : decode cL_law 755 = .ok (.invokevirtual 120, 3) := by decide +kernel
theorem dL_law_758 : decode cL_law 758 = .ok (.iload 6, 2) := by decide +kernel
theorem dL_law_760 : decode cL_law 760 = .ok (.if_icmp .eq 5, 3) := by decide +kernel
theorem dL_law_763 : decode cL_law 763 = .ok (.iconst 0, 1) := by decide +kernel
theorem dL_law_764 : decode cL_law 764 = .ok (.ireturn, 1) := by decide +kernel
theorem dL_law_765 : decode cL_law 765 = .ok (.iload 6, 2) := by decide +kernel
theorem dL_law_767 : decode cL_law 767 = .ok (.ifCond .ne 15, 3) := by decide +kernel
theorem dL_law_770 : decode cL_law 770 = .ok (.aload_n 3, 1) := by decide +kernel
theorem dL_law_771 : decode cL_law 771 = .ok (.iconst 0, 1) := by decide +kernel
theorem dL_law_772 : decode cL_law 772 = .ok (.laload, 1) := by decide +kernel
theorem dL_law_773 : decode cL_law 773 = .ok (.iload 7, 2) := by decide +kernel
theorem dL_law_775 : decode cL_law 775 = .ok (.i2l, 1) := by decide +kernel
theorem dL_law_776 : decode cL_law 776 = .ok (.lcmp, 1) := by decide +kernel
theorem dL_law_777 : decode cL_law 777 = .ok (.ifCond .eq 5, 3) := by decide +kernel
theorem dL_law_780 : decode cL_law 780 = .ok (.iconst 0, 1) := by decide +kernel
theorem dL_law_781 : decode cL_law 781 = .ok (.ireturn, 1) := by decide +kernel
theorem dL_law_782 : decode cL_law 782 = .ok (.goto 1187, 3) := by decide +kernel
theorem dL_law_785 : decode cL_law 785 = .ok (.aload_n 1, 1) := by decide +kernel
theorem dL_law_786 : decode cL_law 786 = .ok (.invokevirtual 155, 3) := by decide +kernel
theorem dL_law_789 : decode cL_law 789 = .ok (.aload_n 2, 1) := by decide +kernel
theorem dL_law_790 : decode cL_law 790 = .ok (.invokevirtual 158, 3) := by decide +kernel
theorem dL_law_793 : decode cL_law 793 = .ok (.if_icmp .eq 1176, 3) := by decide +kernel
theorem dL_law_796 : decode cL_law 796 = .ok (.iconst 0, 1) := by decide +kernel
theorem dL_law_797 : decode cL_law 797 = .ok (.ireturn, 1) := by decide +kernel
theorem dL_law_798 : decode cL_law 798 = .ok (.aload_n 1, 1) := by decide +kernel
theorem dL_law_799 : decode cL_law 799 = .ok (.aload_n 0, 1) := by decide +kernel
theorem dL_law_800 : decode cL_law 800 = .ok (.iload 5, 2) := by decide +kernel
theorem dL_law_802 : decode cL_law 802 = .ok (.iconst 1, 1) := by decide +kernel
theorem dL_law_803 : decode cL_law 803 = .ok (.iadd, 1) := by decide +kernel
theorem dL_law_804 : decode cL_law 804 = .ok (.iaload, 1) := by decide +kernel
theorem dL_law_805 : decode cL_law 805 = .ok (.aload_n 0, 1) := by decide +kernel
theorem dL_law_806 : decode cL_law 806 = .ok (.iload 5, 2) := by decide +kernel
theorem dL_law_808 : decode cL_law 808 = .ok (.iconst 2, 1) := by decide +kernel
theorem dL_law_809 : decode cL_law 809 = .ok (.iadd, 1) := by decide +kernel
theorem dL_law_810 : decode cL_law 810 = .ok (.iaload, 1) := by decide +kernel
theorem dL_law_811 : decode cL_law 811 = .ok (.aload_n 3, 1) := by decide +kernel
theorem dL_law_812 : decode cL_law 812 = .ok (.invokestatic 159, 3) := by decide +kernel
theorem dL_law_815 : decode cL_law 815 = .ok (.istore 6, 2) := by decide +kernel
theorem dL_law_817 : decode cL_law 817 = .ok (.aload_n 2, 1) := by decide +kernel
theorem dL_law_818 : decode cL_law 818 = .ok (.aload_n 0, 1) := by decide +kernel
theorem dL_law_819 : decode cL_law 819 = .ok (.iload 5, 2) := by decide +kernel
theorem dL_law_821 : decode cL_law 821 = .ok (.iconst 1, 1) := by decide +kernel
theorem dL_law_822 : decode cL_law 822 = .ok (.iadd, 1) := by decide +kernel
theorem dL_law_823 : decode cL_law 823 = .ok (.iaload, 1) := by decide +kernel
theorem dL_law_824 : decode cL_law 824 = .ok (.aload_n 0, 1) := by decide +kernel
theorem dL_law_825 : decode cL_law 825 = .ok (.iload 5, 2) := by decide +kernel
theorem dL_law_827 : decode cL_law 827 = .ok (.iconst 2, 1) := by decide +kernel
theorem dL_law_828 : decode cL_law 828 = .ok (.iadd, 1) := by decide +kernel
theorem dL_law_829 : decode cL_law 829 = .ok (.iaload, 1) := by decide +kernel
theorem dL_law_830 : decode cL_law 830 = .ok (.invokevirtual 161, 3) := by decide +kernel
theorem dL_law_833 : decode cL_law 833 = .ok (.lstore 7, 2) := by decide +kernel
theorem dL_law_835 : decode cL_law 835 = .ok (.aload_n 2, 1) := by decide +kernel
theorem dL_law_836 : decode cL_law 836 = .ok (.invokevirtual 120, 3) := by decide +kernel
theorem dL_law_839 : decode cL_law 839 = .ok (.iload 6, 2) := by decide +kernel
theorem dL_law_841 : decode cL_law 841 = .ok (.if_icmp .eq 5, 3) := by decide +kernel
theorem dL_law_844 : decode cL_law 844 = .ok (.iconst 0, 1) := by decide +kernel
theorem dL_law_845 : decode cL_law 845 = .ok (.ireturn, 1) := by decide +kernel
theorem dL_law_846 : decode cL_law 846 = .ok (.iload 6, 2) := by decide +kernel
theorem dL_law_848 : decode cL_law 848 = .ok (.ifCond .ne 14, 3) := by decide +kernel
theorem dL_law_851 : decode cL_law 851 = .ok (.aload_n 3, 1) := by decide +kernel
theorem dL_law_852 : decode cL_law 852 = .ok (.iconst 0, 1) := by decide +kernel
theorem dL_law_853 : decode cL_law 853 = .ok (.laload, 1) := by decide +kernel
theorem dL_law_854 : decode cL_law 854 = .ok (.lload 7, 2) := by decide +kernel
theorem dL_law_856 : decode cL_law 856 = .ok (.lcmp, 1) := by decide +kernel
theorem dL_law_857 : decode cL_law 857 = .ok (.ifCond .eq 5, 3) := by decide +kernel
theorem dL_law_860 : decode cL_law 860 = .ok (.iconst 0, 1) := by decide +kernel
theorem dL_law_861 : decode cL_law 861 = .ok (.ireturn, 1) := by decide +kernel
theorem dL_law_862 : decode cL_law 862 = .ok (.goto 1107, 3) := by decide +kernel
theorem dL_law_865 : decode cL_law 865 = .ok (.aload_n 1, 1) := by decide +kernel
theorem dL_law_866 : decode cL_law 866 = .ok (.aload_n 0, 1) := by decide +kernel
theorem dL_law_867 : decode cL_law 867 = .ok (.iload 5, 2) := by decide +kernel
theorem dL_law_869 : decode cL_law 869 = .ok (.iconst 1, 1) := by decide +kernel
theorem dL_law_870 : decode cL_law 870 = .ok (.iadd, 1) := by decide +kernel
theorem dL_law_871 : decode cL_law 871 = .ok (.iaload, 1) := by decide +kernel
theorem dL_law_872 : decode cL_law 872 = .ok (.aload_n 0, 1) := by decide +kernel
theorem dL_law_873 : decode cL_law 873 = .ok (.iload 5, 2) := by decide +kernel
theorem dL_law_875 : decode cL_law 875 = .ok (.iconst 2, 1) := by decide +kernel
theorem dL_law_876 : decode cL_law 876 = .ok (.iadd, 1) := by decide +kernel
theorem dL_law_877 : decode cL_law 877 = .ok (.iaload, 1) := by decide +kernel
theorem dL_law_878 : decode cL_law 878 = .ok (.aload_n 3, 1) := by decide +kernel
theorem dL_law_879 : decode cL_law 879 = .ok (.invokestatic 162, 3) := by decide +kernel
theorem dL_law_882 : decode cL_law 882 = .ok (.istore 6, 2) := by decide +kernel
theorem dL_law_884 : decode cL_law 884 = .ok (.aload_n 2, 1) := by decide +kernel
theorem dL_law_885 : decode cL_law 885 = .ok (.aload_n 0, 1) := by decide +kernel
theorem dL_law_886 : decode cL_law 886 = .ok (.iload 5, 2) := by decide +kernel
theorem dL_law_888 : decode cL_law 888 = .ok (.iconst 1, 1) := by decide +kernel
theorem dL_law_889 : decode cL_law 889 = .ok (.iadd, 1) := by decide +kernel
theorem dL_law_890 : decode cL_law 890 = .ok (.iaload, 1) := by decide +kernel
theorem dL_law_891 : decode cL_law 891 = .ok (.aload_n 0, 1) := by decide +kernel
theorem dL_law_892 : decode cL_law 892 = .ok (.iload 5, 2) := by decide +kernel
theorem dL_law_894 : decode cL_law 894 = .ok (.iconst 2, 1) := by decide +kernel
theorem dL_law_895 : decode cL_law 895 = .ok (.iadd, 1) := by decide +kernel
theorem dL_law_896 : decode cL_law 896 = .ok (.iaload, 1) := by decide +kernel
theorem dL_law_897 : decode cL_law 897 = .ok (.invokevirtual 164, 3) := by decide +kernel
theorem dL_law_900 : decode cL_law 900 = .ok (.istore 7, 2) := by decide +kernel
theorem dL_law_902 : decode cL_law 902 = .ok (.aload_n 2, 1) := by decide +kernel
theorem dL_law_903 : decode cL_law 903 = .ok (.invokevirtual 120, 3) := by decide +kernel
theorem dL_law_906 : decode cL_law 906 = .ok (.iload 6, 2) := by decide +kernel
theorem dL_law_908 : decode cL_law 908 = .ok (.if_icmp .eq 5, 3) := by decide +kernel
theorem dL_law_911 : decode cL_law 911 = .ok (.iconst 0, 1) := by decide +kernel
theorem dL_law_912 : decode cL_law 912 = .ok (.ireturn, 1) := by decide +kernel
theorem dL_law_913 : decode cL_law 913 = .ok (.iload 6, 2) := by decide +kernel
theorem dL_law_915 : decode cL_law 915 = .ok (.ifCond .ne 22, 3) := by decide +kernel
theorem dL_law_918 : decode cL_law 918 = .ok (.aload_n 3, 1) := by decide +kernel
theorem dL_law_919 : decode cL_law 919 = .ok (.iconst 0, 1) := by decide +kernel
theorem dL_law_920 : decode cL_law 920 = .ok (.laload, 1) := by decide +kernel
theorem dL_law_921 : decode cL_law 921 = .ok (.iload 7, 2) := by decide +kernel
theorem dL_law_923 : decode cL_law 923 = .ok (.ifCond .eq 7, 3) := by decide +kernel
theorem dL_law_926 : decode cL_law 926 = .ok (.lconst 1, 1) := by decide +kernel
theorem dL_law_927 : decode cL_law 927 = .ok (.goto 4, 3) := by decide +kernel
theorem dL_law_930 : decode cL_law 930 = .ok (.lconst 0, 1) := by decide +kernel
theorem dL_law_931 : decode cL_law 931 = .ok (.lcmp, 1) := by decide +kernel
theorem dL_law_932 : decode cL_law 932 = .ok (.ifCond .eq 5, 3) := by decide +kernel
theorem dL_law_935 : decode cL_law 935 = .ok (.iconst 0, 1) := by decide +kernel
theorem dL_law_936 : decode cL_law 936 = .ok (.ireturn, 1) := by decide +kernel
theorem dL_law_937 : decode cL_law 937 = .ok (.goto 1032, 3) := by decide +kernel
theorem dL_law_940 : decode cL_law 940 = .ok (.aload_n 1, 1) := by decide +kernel
theorem dL_law_941 : decode cL_law 941 = .ok (.invokevirtual 165, 3) := by decide +kernel
theorem dL_law_944 : decode cL_law 944 = .ok (.aload_n 2, 1) := by decide +kernel
theorem dL_law_945 : decode cL_law 945 = .ok (.invokevirtual 169, 3) := by decide +kernel
theorem dL_law_948 : decode cL_law 948 = .ok (.lcmp, 1) := by decide +kernel
theorem dL_law_949 : decode cL_law 949 = .ok (.ifCond .eq 1020, 3) := by decide +kernel
theorem dL_law_952 : decode cL_law 952 = .ok (.iconst 0, 1) := by decide +kernel
theorem dL_law_953 : decode cL_law 953 = .ok (.ireturn, 1) := by decide +kernel
theorem dL_law_954 : decode cL_law 954 = .ok (.aload_n 1, 1) := by decide +kernel
theorem dL_law_955 : decode cL_law 955 = .ok (.invokevirtual 170, 3) := by decide +kernel
theorem dL_law_958 : decode cL_law 958 = .ok (.aload_n 2, 1) := by decide +kernel
theorem dL_law_959 : decode cL_law 959 = .ok (.invokevirtual 173, 3) := by decide +kernel
theorem dL_law_962 : decode cL_law 962 = .ok (.lcmp, 1) := by decide +kernel
theorem dL_law_963 : decode cL_law 963 = .ok (.ifCond .eq 1006, 3) := by decide +kernel
theorem dL_law_966 : decode cL_law 966 = .ok (.iconst 0, 1) := by decide +kernel
theorem dL_law_967 : decode cL_law 967 = .ok (.ireturn, 1) := by decide +kernel
theorem dL_law_968 : decode cL_law 968 = .ok (.aload_n 1, 1) := by decide +kernel
theorem dL_law_969 : decode cL_law 969 = .ok (.aload_n 0, 1) := by decide +kernel
theorem dL_law_970 : decode cL_law 970 = .ok (.iload 5, 2) := by decide +kernel
theorem dL_law_972 : decode cL_law 972 = .ok (.iconst 1, 1) := by decide +kernel
theorem dL_law_973 : decode cL_law 973 = .ok (.iadd, 1) := by decide +kernel
theorem dL_law_974 : decode cL_law 974 = .ok (.iaload, 1) := by decide +kernel
theorem dL_law_975 : decode cL_law 975 = .ok (.aload_n 3, 1) := by decide +kernel
theorem dL_law_976 : decode cL_law 976 = .ok (.invokestatic 174, 3) := by decide +kernel
theorem dL_law_979 : decode cL_law 979 = .ok (.istore 6, 2) := by decide +kernel
theorem dL_law_981 : decode cL_law 981 = .ok (.aload_n 2, 1) := by decide +kernel
theorem dL_law_982 : decode cL_law 982 = .ok (.aload_n 0, 1) := by decide +kernel
theorem dL_law_983 : decode cL_law 983 = .ok (.iload 5, 2) := by decide +kernel
theorem dL_law_985 : decode cL_law 985 = .ok (.iconst 1, 1) := by decide +kernel
theorem dL_law_986 : decode cL_law 986 = .ok (.iadd, 1) := by decide +kernel
theorem dL_law_987 : decode cL_law 987 = .ok (.iaload, 1) := by decide +kernel
theorem dL_law_988 : decode cL_law 988 = .ok (.invokevirtual 176, 3) := by decide +kernel
theorem dL_law_991 : decode cL_law 991 = .ok (.istore 7, 2) := by decide +kernel
theorem dL_law_993 : decode cL_law 993 = .ok (.aload_n 2, 1) := by decide +kernel
theorem dL_law_994 : decode cL_law 994 = .ok (.invokevirtual 120, 3) := by decide +kernel
theorem dL_law_997 : decode cL_law 997 = .ok (.iload 6, 2) := by decide +kernel
theorem dL_law_999 : decode cL_law 999 = .ok (.if_icmp .eq 5, 3) := by decide +kernel
theorem dL_law_1002 : decode cL_law 1002 = .ok (.iconst 0, 1) := by decide +kernel
theorem dL_law_1003 : decode cL_law 1003 = .ok (.ireturn, 1) := by decide +kernel
theorem dL_law_1004 : decode cL_law 1004 = .ok (.iload 6, 2) := by decide +kernel
theorem dL_law_1006 : decode cL_law 1006 = .ok (.ifCond .ne 15, 3) := by decide +kernel
theorem dL_law_1009 : decode cL_law 1009 = .ok (.aload_n 3, 1) := by decide +kernel
theorem dL_law_1010 : decode cL_law 1010 = .ok (.iconst 0, 1) := by decide +kernel
theorem dL_law_1011 : decode cL_law 1011 = .ok (.laload, 1) := by decide +kernel
theorem dL_law_1012 : decode cL_law 1012 = .ok (.iload 7, 2) := by decide +kernel
theorem dL_law_1014 : decode cL_law 1014 = .ok (.i2l, 1) := by decide +kernel
theorem dL_law_1015 : decode cL_law 1015 = .ok (.lcmp, 1) := by decide +kernel
theorem dL_law_1016 : decode cL_law 1016 = .ok (.ifCond .eq 5, 3) := by decide +kernel
theorem dL_law_1019 : decode cL_law 1019 = .ok (.iconst 0, 1) := by decide +kernel
theorem dL_law_1020 : decode cL_law 1020 = .ok (.ireturn, 1) := by decide +kernel
theorem dL_law_1021 : decode cL_law 1021 = .ok (.goto 948, 3) := by decide +kernel
theorem dL_law_1024 : decode cL_law 1024 = .ok (.aload_n 1, 1) := by decide +kernel
theorem dL_law_1025 : decode cL_law 1025 = .ok (.invokevirtual 177, 3) := by decide +kernel
theorem dL_law_1028 : decode cL_law 1028 = .ok (.aload_n 2, 1) := by decide +kernel
theorem dL_law_1029 : decode cL_law 1029 = .ok (.invokevirtual 180, 3) := by decide +kernel
theorem dL_law_1032 : decode cL_law 1032 = .ok (.if_icmp .eq 937, 3) := by decide +kernel
theorem dL_law_1035 : decode cL_law 1035 = .ok (.iconst 0, 1) := by decide +kernel
theorem dL_law_1036 : decode cL_law 1036 = .ok (.ireturn, 1) := by decide +kernel
theorem dL_law_1037 : decode cL_law 1037 = .ok (.aload_n 1, 1) := by decide +kernel
theorem dL_law_1038 : decode cL_law 1038 = .ok (.invokevirtual 181, 3) := by decide +kernel
theorem dL_law_1041 : decode cL_law 1041 = .ok (.aload_n 2, 1) := by decide +kernel
theorem dL_law_1042 : decode cL_law 1042 = .ok (.invokevirtual 184, 3) := by decide +kernel
theorem dL_law_1045 : decode cL_law 1045 = .ok (.if_icmp .eq 924, 3) := by decide +kernel
theorem dL_law_1048 : decode cL_law 1048 = .ok (.iconst 0, 1) := by decide +kernel
theorem dL_law_1049 : decode cL_law 1049 = .ok (.ireturn, 1) := by decide +kernel
theorem dL_law_1050 : decode cL_law 1050 = .ok (.aload_n 1, 1) := by decide +kernel
theorem dL_law_1051 : decode cL_law 1051 = .ok (.aload_n 0, 1) := by decide +kernel
theorem dL_law_1052 : decode cL_law 1052 = .ok (.iload 5, 2) := by decide +kernel
theorem dL_law_1054 : decode cL_law 1054 = .ok (.iconst 1, 1) := by decide +kernel
theorem dL_law_1055 : decode cL_law 1055 = .ok (.iadd, 1) := by decide +kernel
theorem dL_law_1056 : decode cL_law 1056 = .ok (.iaload, 1) := by decide +kernel
theorem dL_law_1057 : decode cL_law 1057 = .ok (.aload_n 3, 1) := by decide +kernel
theorem dL_law_1058 : decode cL_law 1058 = .ok (.invokestatic 185, 3) := by decide +kernel
theorem dL_law_1061 : decode cL_law 1061 = .ok (.istore 6, 2) := by decide +kernel
theorem dL_law_1063 : decode cL_law 1063 = .ok (.aload_n 2, 1) := by decide +kernel
theorem dL_law_1064 : decode cL_law 1064 = .ok (.aload_n 0, 1) := by decide +kernel
theorem dL_law_1065 : decode cL_law 1065 = .ok (.iload 5, 2) := by decide +kernel
theorem dL_law_1067 : decode cL_law 1067 = .ok (.iconst 1, 1) := by decide +kernel
theorem dL_law_1068 : decode cL_law 1068 = .ok (.iadd, 1) := by decide +kernel
theorem dL_law_1069 : decode cL_law 1069 = .ok (.iaload, 1) := by decide +kernel
theorem dL_law_1070 : decode cL_law 1070 = .ok (.invokevirtual 187, 3) := by decide +kernel
theorem dL_law_1073 : decode cL_law 1073 = .ok (.istore 7, 2) := by decide +kernel
theorem dL_law_1075 : decode cL_law 1075 = .ok (.aload_n 2, 1) := by decide +kernel
theorem dL_law_1076 : decode cL_law 1076 = .ok (.invokevirtual 120, 3) := by decide +kernel
theorem dL_law_1079 : decode cL_law 1079 = .ok (.iload 6, 2) := by decide +kernel
theorem dL_law_1081 : decode cL_law 1081 = .ok (.if_icmp .eq 5, 3) := by decide +kernel
theorem dL_law_1084 : decode cL_law 1084 = .ok (.iconst 0, 1) := by decide +kernel
theorem dL_law_1085 : decode cL_law 1085 = .ok (.ireturn, 1) := by decide +kernel
theorem dL_law_1086 : decode cL_law 1086 = .ok (.iload 6, 2) := by decide +kernel
theorem dL_law_1088 : decode cL_law 1088 = .ok (.ifCond .ne 15, 3) := by decide +kernel
theorem dL_law_1091 : decode cL_law 1091 = .ok (.aload_n 3, 1) := by decide +kernel
theorem dL_law_1092 : decode cL_law 1092 = .ok (.iconst 0, 1) := by decide +kernel
theorem dL_law_1093 : decode cL_law 1093 = .ok (.laload, 1) := by decide +kernel
theorem dL_law_1094 : decode cL_law 1094 = .ok (.iload 7, 2) := by decide +kernel
theorem dL_law_1096 : decode cL_law 1096 = .ok (.i2l, 1) := by decide +kernel
theorem dL_law_1097 : decode cL_law 1097 = .ok (.lcmp, 1) := by decide +kernel
theorem dL_law_1098 : decode cL_law 1098 = .ok (.ifCond .eq 5, 3) := by decide +kernel
theorem dL_law_1101 : decode cL_law 1101 = .ok (.iconst 0, 1) := by decide +kernel
theorem dL_law_1102 : decode cL_law 1102 = .ok (.ireturn, 1) := by decide +kernel
theorem dL_law_1103 : decode cL_law 1103 = .ok (.goto 866, 3) := by decide +kernel
theorem dL_law_1106 : decode cL_law 1106 = .ok (.aload_n 1, 1) := by decide +kernel
theorem dL_law_1107 : decode cL_law 1107 = .ok (.aload_n 0, 1) := by decide +kernel
theorem dL_law_1108 : decode cL_law 1108 = .ok (.iload 5, 2) := by decide +kernel
theorem dL_law_1110 : decode cL_law 1110 = .ok (.iconst 1, 1) := by decide +kernel
theorem dL_law_1111 : decode cL_law 1111 = .ok (.iadd, 1) := by decide +kernel
theorem dL_law_1112 : decode cL_law 1112 = .ok (.iaload, 1) := by decide +kernel
theorem dL_law_1113 : decode cL_law 1113 = .ok (.aload_n 3, 1) := by decide +kernel
theorem dL_law_1114 : decode cL_law 1114 = .ok (.invokestatic 188, 3) := by decide +kernel
theorem dL_law_1117 : decode cL_law 1117 = .ok (.istore 6, 2) := by decide +kernel
theorem dL_law_1119 : decode cL_law 1119 = .ok (.aload_n 2, 1) := by decide +kernel
theorem dL_law_1120 : decode cL_law 1120 = .ok (.aload_n 0, 1) := by decide +kernel
theorem dL_law_1121 : decode cL_law 1121 = .ok (.iload 5, 2) := by decide +kernel
theorem dL_law_1123 : decode cL_law 1123 = .ok (.iconst 1, 1) := by decide +kernel
theorem dL_law_1124 : decode cL_law 1124 = .ok (.iadd, 1) := by decide +kernel
theorem dL_law_1125 : decode cL_law 1125 = .ok (.iaload, 1) := by decide +kernel
theorem dL_law_1126 : decode cL_law 1126 = .ok (.invokevirtual 190, 3) := by decide +kernel
theorem dL_law_1129 : decode cL_law 1129 = .ok (.istore 7, 2) := by decide +kernel
theorem dL_law_1131 : decode cL_law 1131 = .ok (.aload_n 2, 1) := by decide +kernel
theorem dL_law_1132 : decode cL_law 1132 = .ok (.invokevirtual 120, 3) := by decide +kernel
theorem dL_law_1135 : decode cL_law 1135 = .ok (.iload 6, 2) := by decide +kernel
theorem dL_law_1137 : decode cL_law 1137 = .ok (.if_icmp .eq 5, 3) := by decide +kernel
theorem dL_law_1140 : decode cL_law 1140 = .ok (.iconst 0, 1) := by decide +kernel
theorem dL_law_1141 : decode cL_law 1141 = .ok (.ireturn, 1) := by decide +kernel
theorem dL_law_1142 : decode cL_law 1142 = .ok (.iload 6, 2) := by decide +kernel
theorem dL_law_1144 : decode cL_law 1144 = .ok (.ifCond .ne 15, 3) := by decide +kernel
theorem dL_law_1147 : decode cL_law 1147 = .ok (.aload_n 3, 1) := by decide +kernel
theorem dL_law_1148 : decode cL_law 1148 = .ok (.iconst 0, 1) := by decide +kernel
theorem dL_law_1149 : decode cL_law 1149 = .ok (.laload, 1) := by decide +kernel
theorem dL_law_1150 : decode cL_law 1150 = .ok (.iload 7, 2) := by decide +kernel
theorem dL_law_1152 : decode cL_law 1152 = .ok (.i2l, 1) := by decide +kernel
theorem dL_law_1153 : decode cL_law 1153 = .ok (.lcmp, 1) := by decide +kernel
theorem dL_law_1154 : decode cL_law 1154 = .ok (.ifCond .eq 5, 3) := by decide +kernel
theorem dL_law_1157 : decode cL_law 1157 = .ok (.iconst 0, 1) := by decide +kernel
theorem dL_law_1158 : decode cL_law 1158 = .ok (.ireturn, 1) := by decide +kernel
theorem dL_law_1159 : decode cL_law 1159 = .ok (.goto 810, 3) := by decide +kernel
theorem dL_law_1162 : decode cL_law 1162 = .ok (.aload_n 1, 1) := by decide +kernel
theorem dL_law_1163 : decode cL_law 1163 = .ok (.aload_n 0, 1) := by decide +kernel
theorem dL_law_1164 : decode cL_law 1164 = .ok (.iload 5, 2) := by decide +kernel
theorem dL_law_1166 : decode cL_law 1166 = .ok (.iconst 1, 1) := by decide +kernel
theorem dL_law_1167 : decode cL_law 1167 = .ok (.iadd, 1) := by decide +kernel
theorem dL_law_1168 : decode cL_law 1168 = .ok (.iaload, 1) := by decide +kernel
theorem dL_law_1169 : decode cL_law 1169 = .ok (.aload_n 0, 1) := by decide +kernel
theorem dL_law_1170 : decode cL_law 1170 = .ok (.iload 5, 2) := by decide +kernel
theorem dL_law_1172 : decode cL_law 1172 = .ok (.iconst 2, 1) := by decide +kernel
theorem dL_law_1173 : decode cL_law 1173 = .ok (.iadd, 1) := by decide +kernel
theorem dL_law_1174 : decode cL_law 1174 = .ok (.iaload, 1) := by decide +kernel
theorem dL_law_1175 : decode cL_law 1175 = .ok (.aload_n 3, 1) := by decide +kernel
theorem dL_law_1176 : decode cL_law 1176 = .ok (.invokestatic 191, 3) := by decide +kernel
theorem dL_law_1179 : decode cL_law 1179 = .ok (.istore 6, 2) := by decide +kernel
theorem dL_law_1181 : decode cL_law 1181 = .ok (.aload_n 2, 1) := by decide +kernel
theorem dL_law_1182 : decode cL_law 1182 = .ok (.aload_n 0, 1) := by decide +kernel
theorem dL_law_1183 : decode cL_law 1183 = .ok (.iload 5, 2) := by decide +kernel
theorem dL_law_1185 : decode cL_law 1185 = .ok (.iconst 1, 1) := by decide +kernel
theorem dL_law_1186 : decode cL_law 1186 = .ok (.iadd, 1) := by decide +kernel
theorem dL_law_1187 : decode cL_law 1187 = .ok (.iaload, 1) := by decide +kernel
theorem dL_law_1188 : decode cL_law 1188 = .ok (.aload_n 0, 1) := by decide +kernel
theorem dL_law_1189 : decode cL_law 1189 = .ok (.iload 5, 2) := by decide +kernel
theorem dL_law_1191 : decode cL_law 1191 = .ok (.iconst 2, 1) := by decide +kernel
theorem dL_law_1192 : decode cL_law 1192 = .ok (.iadd, 1) := by decide +kernel
theorem dL_law_1193 : decode cL_law 1193 = .ok (.iaload, 1) := by decide +kernel
theorem dL_law_1194 : decode cL_law 1194 = .ok (.invokevirtual 193, 3) := by decide +kernel
theorem dL_law_1197 : decode cL_law 1197 = .ok (.istore 7, 2) := by decide +kernel
theorem dL_law_1199 : decode cL_law 1199 = .ok (.aload_n 2, 1) := by decide +kernel
theorem dL_law_1200 : decode cL_law 1200 = .ok (.invokevirtual 120, 3) := by decide +kernel
theorem dL_law_1203 : decode cL_law 1203 = .ok (.iload 6, 2) := by decide +kernel
theorem dL_law_1205 : decode cL_law 1205 = .ok (.if_icmp .eq 5, 3) := by decide +kernel
theorem dL_law_1208 : decode cL_law 1208 = .ok (.iconst 0, 1) := by decide +kernel
theorem dL_law_1209 : decode cL_law 1209 = .ok (.ireturn, 1) := by decide +kernel
theorem dL_law_1210 : decode cL_law 1210 = .ok (.iload 6, 2) := by decide +kernel
theorem dL_law_1212 : decode cL_law 1212 = .ok (.ifCond .ne 15, 3) := by decide +kernel
theorem dL_law_1215 : decode cL_law 1215 = .ok (.aload_n 3, 1) := by decide +kernel
theorem dL_law_1216 : decode cL_law 1216 = .ok (.iconst 0, 1) := by decide +kernel
theorem dL_law_1217 : decode cL_law 1217 = .ok (.laload, 1) := by decide +kernel
theorem dL_law_1218 : decode cL_law 1218 = .ok (.iload 7, 2) := by decide +kernel
theorem dL_law_1220 : decode cL_law 1220 = .ok (.i2l, 1) := by decide +kernel
theorem dL_law_1221 : decode cL_law 1221 = .ok (.lcmp, 1) := by decide +kernel
theorem dL_law_1222 : decode cL_law 1222 = .ok (.ifCond .eq 5, 3) := by decide +kernel
theorem dL_law_1225 : decode cL_law 1225 = .ok (.iconst 0, 1) := by decide +kernel
theorem dL_law_1226 : decode cL_law 1226 = .ok (.ireturn, 1) := by decide +kernel
theorem dL_law_1227 : decode cL_law 1227 = .ok (.goto 742, 3) := by decide +kernel
theorem dL_law_1230 : decode cL_law 1230 = .ok (.aload_n 1, 1) := by decide +kernel
theorem dL_law_1231 : decode cL_law 1231 = .ok (.aload_n 0, 1) := by decide +kernel
theorem dL_law_1232 : decode cL_law 1232 = .ok (.iload 5, 2) := by decide +kernel
theorem dL_law_1234 : decode cL_law 1234 = .ok (.iconst 1, 1) := by decide +kernel
theorem dL_law_1235 : decode cL_law 1235 = .ok (.iadd, 1) := by decide +kernel
theorem dL_law_1236 : decode cL_law 1236 = .ok (.iaload, 1) := by decide +kernel
theorem dL_law_1237 : decode cL_law 1237 = .ok (.aload_n 0, 1) := by decide +kernel
theorem dL_law_1238 : decode cL_law 1238 = .ok (.iload 5, 2) := by decide +kernel
theorem dL_law_1240 : decode cL_law 1240 = .ok (.iconst 2, 1) := by decide +kernel
theorem dL_law_1241 : decode cL_law 1241 = .ok (.iadd, 1) := by decide +kernel
theorem dL_law_1242 : decode cL_law 1242 = .ok (.iaload, 1) := by decide +kernel
theorem dL_law_1243 : decode cL_law 1243 = .ok (.aload_n 0, 1) := by decide +kernel
theorem dL_law_1244 : decode cL_law 1244 = .ok (.iload 5, 2) := by decide +kernel
theorem dL_law_1246 : decode cL_law 1246 = .ok (.iconst 3, 1) := by decide +kernel
theorem dL_law_1247 : decode cL_law 1247 = .ok (.iadd, 1) := by decide +kernel
theorem dL_law_1248 : decode cL_law 1248 = .ok (.iaload, 1) := by decide +kernel
theorem dL_law_1249 : decode cL_law 1249 = .ok (.ifCond .eq 7, 3) := by decide +kernel
theorem dL_law_1252 : decode cL_law 1252 = .ok (.iconst 1, 1) := by decide +kernel
theorem dL_law_1253 : decode cL_law 1253 = .ok (.goto 4, 3) := by decide +kernel
theorem dL_law_1256 : decode cL_law 1256 = .ok (.iconst 0, 1) := by decide +kernel
theorem dL_law_1257 : decode cL_law 1257 = .ok (.aload_n 3, 1) := by decide +kernel
theorem dL_law_1258 : decode cL_law 1258 = .ok (.invokestatic 194, 3) := by decide +kernel
theorem dL_law_1261 : decode cL_law 1261 = .ok (.istore 6, 2) := by decide +kernel
theorem dL_law_1263 : decode cL_law 1263 = .ok (.aload_n 2, 1) := by decide +kernel
theorem dL_law_1264 : decode cL_law 1264 = .ok (.aload_n 0, 1) := by decide +kernel
theorem dL_law_1265 : decode cL_law 1265 = .ok (.iload 5, 2) := by decide +kernel
theorem dL_law_1267 : decode cL_law 1267 = .ok (.iconst 1, 1) := by decide +kernel
theorem dL_law_1268 : decode cL_law 1268 = .ok (.iadd, 1) := by decide +kernel
theorem dL_law_1269 : decode cL_law 1269 = .ok (.iaload, 1) := by decide +kernel
theorem dL_law_1270 : decode cL_law 1270 = .ok (.aload_n 0, 1) := by decide +kernel
theorem dL_law_1271 : decode cL_law 1271 = .ok (.iload 5, 2) := by decide +kernel
theorem dL_law_1273 : decode cL_law 1273 = .ok (.iconst 2, 1) := by decide +kernel
theorem dL_law_1274 : decode cL_law 1274 = .ok (.iadd, 1) := by decide +kernel
theorem dL_law_1275 : decode cL_law 1275 = .ok (.iaload, 1) := by decide +kernel
theorem dL_law_1276 : decode cL_law 1276 = .ok (.aload_n 0, 1) := by decide +kernel
theorem dL_law_1277 : decode cL_law 1277 = .ok (.iload 5, 2) := by decide +kernel
theorem dL_law_1279 : decode cL_law 1279 = .ok (.iconst 3, 1) := by decide +kernel
theorem dL_law_1280 : decode cL_law 1280 = .ok (.iadd, 1) := by decide +kernel
theorem dL_law_1281 : decode cL_law 1281 = .ok (.iaload, 1) := by decide +kernel
theorem dL_law_1282 : decode cL_law 1282 = .ok (.ifCond .eq 7, 3) := by decide +kernel
theorem dL_law_1285 : decode cL_law 1285 = .ok (.iconst 1, 1) := by decide +kernel
theorem dL_law_1286 : decode cL_law 1286 = .ok (.goto 4, 3) := by decide +kernel
theorem dL_law_1289 : decode cL_law 1289 = .ok (.iconst 0, 1) := by decide +kernel
theorem dL_law_1290 : decode cL_law 1290 = .ok (.invokevirtual 197, 3) := by decide +kernel
theorem dL_law_1293 : decode cL_law 1293 = .ok (.istore 7, 2) := by decide +kernel
theorem dL_law_1295 : decode cL_law 1295 = .ok (.aload_n 2, 1) := by decide +kernel
theorem dL_law_1296 : decode cL_law 1296 = .ok (.invokevirtual 120, 3) := by decide +kernel
theorem dL_law_1299 : decode cL_law 1299 = .ok (.iload 6, 2) := by decide +kernel
theorem dL_law_1301 : decode cL_law 1301 = .ok (.if_icmp .eq 5, 3) := by decide +kernel
theorem dL_law_1304 : decode cL_law 1304 = .ok (.iconst 0, 1) := by decide +kernel
theorem dL_law_1305 : decode cL_law 1305 = .ok (.ireturn, 1) := by decide +kernel
theorem dL_law_1306 : decode cL_law 1306 = .ok (.iload 6, 2) := by decide +kernel
theorem dL_law_1308 : decode cL_law 1308 = .ok (.ifCond .ne 15, 3) := by decide +kernel
theorem dL_law_1311 : decode cL_law 1311 = .ok (.aload_n 3, 1) := by decide +kernel
theorem dL_law_1312 : decode cL_law 1312 = .ok (.iconst 0, 1) := by decide +kernel
theorem dL_law_1313 : decode cL_law 1313 = .ok (.laload, 1) := by decide +kernel
theorem dL_law_1314 : decode cL_law 1314 = .ok (.iload 7, 2) := by decide +kernel
theorem dL_law_1316 : decode cL_law 1316 = .ok (.i2l, 1) := by decide +kernel
theorem dL_law_1317 : decode cL_law 1317 = .ok (.lcmp, 1) := by decide +kernel
theorem dL_law_1318 : decode cL_law 1318 = .ok (.ifCond .eq 5, 3) := by decide +kernel
theorem dL_law_1321 : decode cL_law 1321 = .ok (.iconst 0, 1) := by decide +kernel
theorem dL_law_1322 : decode cL_law 1322 = .ok (.ireturn, 1) := by decide +kernel
theorem dL_law_1323 : decode cL_law 1323 = .ok (.goto 646, 3) := by decide +kernel
theorem dL_law_1326 : decode cL_law 1326 = .ok (.aload_n 1, 1) := by decide +kernel
theorem dL_law_1327 : decode cL_law 1327 = .ok (.aload_n 0, 1) := by decide +kernel
theorem dL_law_1328 : decode cL_law 1328 = .ok (.iload 5, 2) := by decide +kernel
theorem dL_law_1330 : decode cL_law 1330 = .ok (.iconst 1, 1) := by decide +kernel
theorem dL_law_1331 : decode cL_law 1331 = .ok (.iadd, 1) := by decide +kernel
theorem dL_law_1332 : decode cL_law 1332 = .ok (.iaload, 1) := by decide +kernel
theorem dL_law_1333 : decode cL_law 1333 = .ok (.aload_n 3, 1) := by decide +kernel
theorem dL_law_1334 : decode cL_law 1334 = .ok (.invokestatic 198, 3) := by decide +kernel
theorem dL_law_1337 : decode cL_law 1337 = .ok (.istore 6, 2) := by decide +kernel
theorem dL_law_1339 : decode cL_law 1339 = .ok (.aload_n 2, 1) := by decide +kernel
theorem dL_law_1340 : decode cL_law 1340 = .ok (.aload_n 0, 1) := by decide +kernel
theorem dL_law_1341 : decode cL_law 1341 = .ok (.iload 5, 2) := by decide +kernel
theorem dL_law_1343 : decode cL_law 1343 = .ok (.iconst 1, 1) := by decide +kernel
theorem dL_law_1344 : decode cL_law 1344 = .ok (.iadd, 1) := by decide +kernel
theorem dL_law_1345 : decode cL_law 1345 = .ok (.iaload, 1) := by decide +kernel
theorem dL_law_1346 : decode cL_law 1346 = .ok (.invokevirtual 200, 3) := by decide +kernel
theorem dL_law_1349 : decode cL_law 1349 = .ok (.istore 7, 2) := by decide +kernel
theorem dL_law_1351 : decode cL_law 1351 = .ok (.aload_n 2, 1) := by decide +kernel
theorem dL_law_1352 : decode cL_law 1352 = .ok (.invokevirtual 120, 3) := by decide +kernel
theorem dL_law_1355 : decode cL_law 1355 = .ok (.iload 6, 2) := by decide +kernel
theorem dL_law_1357 : decode cL_law 1357 = .ok (.if_icmp .eq 5, 3) := by decide +kernel
theorem dL_law_1360 : decode cL_law 1360 = .ok (.iconst 0, 1) := by decide +kernel
theorem dL_law_1361 : decode cL_law 1361 = .ok (.ireturn, 1) := by decide +kernel
theorem dL_law_1362 : decode cL_law 1362 = .ok (.iload 6, 2) := by decide +kernel
theorem dL_law_1364 : decode cL_law 1364 = .ok (.ifCond .ne 15, 3) := by decide +kernel
theorem dL_law_1367 : decode cL_law 1367 = .ok (.aload_n 3, 1) := by decide +kernel
theorem dL_law_1368 : decode cL_law 1368 = .ok (.iconst 0, 1) := by decide +kernel
theorem dL_law_1369 : decode cL_law 1369 = .ok (.laload, 1) := by decide +kernel
theorem dL_law_1370 : decode cL_law 1370 = .ok (.iload 7, 2) := by decide +kernel
theorem dL_law_1372 : decode cL_law 1372 = .ok (.i2l, 1) := by decide +kernel
theorem dL_law_1373 : decode cL_law 1373 = .ok (.lcmp, 1) := by decide +kernel
theorem dL_law_1374 : decode cL_law 1374 = .ok (.ifCond .eq 5, 3) := by decide +kernel
theorem dL_law_1377 : decode cL_law 1377 = .ok (.iconst 0, 1) := by decide +kernel
theorem dL_law_1378 : decode cL_law 1378 = .ok (.ireturn, 1) := by decide +kernel
theorem dL_law_1379 : decode cL_law 1379 = .ok (.goto 590, 3) := by decide +kernel
theorem dL_law_1382 : decode cL_law 1382 = .ok (.aload_n 1, 1) := by decide +kernel
theorem dL_law_1383 : decode cL_law 1383 = .ok (.aload_n 0, 1) := by decide +kernel
theorem dL_law_1384 : decode cL_law 1384 = .ok (.iload 5, 2) := by decide +kernel
theorem dL_law_1386 : decode cL_law 1386 = .ok (.iconst 1, 1) := by decide +kernel
theorem dL_law_1387 : decode cL_law 1387 = .ok (.iadd, 1) := by decide +kernel
theorem dL_law_1388 : decode cL_law 1388 = .ok (.iaload, 1) := by decide +kernel
theorem dL_law_1389 : decode cL_law 1389 = .ok (.aload_n 3, 1) := by decide +kernel
theorem dL_law_1390 : decode cL_law 1390 = .ok (.invokestatic 201, 3) := by decide +kernel
theorem dL_law_1393 : decode cL_law 1393 = .ok (.istore 6, 2) := by decide +kernel
theorem dL_law_1395 : decode cL_law 1395 = .ok (.aload_n 2, 1) := by decide +kernel
theorem dL_law_1396 : decode cL_law 1396 = .ok (.aload_n 0, 1) := by decide +kernel
theorem dL_law_1397 : decode cL_law 1397 = .ok (.iload 5, 2) := by decide +kernel
theorem dL_law_1399 : decode cL_law 1399 = .ok (.iconst 1, 1) := by decide +kernel
theorem dL_law_1400 : decode cL_law 1400 = .ok (.iadd, 1) := by decide +kernel
theorem dL_law_1401 : decode cL_law 1401 = .ok (.iaload, 1) := by decide +kernel
theorem dL_law_1402 : decode cL_law 1402 = .ok (.invokevirtual 203, 3) := by decide +kernel
theorem dL_law_1405 : decode cL_law 1405 = .ok (.istore 7, 2) := by decide +kernel
theorem dL_law_1407 : decode cL_law 1407 = .ok (.aload_n 2, 1) := by decide +kernel
theorem dL_law_1408 : decode cL_law 1408 = .ok (.invokevirtual 120, 3) := by decide +kernel
theorem dL_law_1411 : decode cL_law 1411 = .ok (.iload 6, 2) := by decide +kernel
theorem dL_law_1413 : decode cL_law 1413 = .ok (.if_icmp .eq 5, 3) := by decide +kernel
theorem dL_law_1416 : decode cL_law 1416 = .ok (.iconst 0, 1) := by decide +kernel
theorem dL_law_1417 : decode cL_law 1417 = .ok (.ireturn, 1) := by decide +kernel
theorem dL_law_1418 : decode cL_law 1418 = .ok (.iload 6, 2) := by decide +kernel
theorem dL_law_1420 : decode cL_law 1420 = .ok (.ifCond .ne 15, 3) := by decide +kernel
theorem dL_law_1423 : decode cL_law 1423 = .ok (.aload_n 3, 1) := by decide +kernel
theorem dL_law_1424 : decode cL_law 1424 = .ok (.iconst 0, 1) := by decide +kernel
theorem dL_law_1425 : decode cL_law 1425 = .ok (.laload, 1) := by decide +kernel
theorem dL_law_1426 : decode cL_law 1426 = .ok (.iload 7, 2) := by decide +kernel
theorem dL_law_1428 : decode cL_law 1428 = .ok (.i2l, 1) := by decide +kernel
theorem dL_law_1429 : decode cL_law 1429 = .ok (.lcmp, 1) := by decide +kernel
theorem dL_law_1430 : decode cL_law 1430 = .ok (.ifCond .eq 5, 3) := by decide +kernel
theorem dL_law_1433 : decode cL_law 1433 = .ok (.iconst 0, 1) := by decide +kernel
theorem dL_law_1434 : decode cL_law 1434 = .ok (.ireturn, 1) := by decide +kernel
theorem dL_law_1435 : decode cL_law 1435 = .ok (.goto 534, 3) := by decide +kernel
theorem dL_law_1438 : decode cL_law 1438 = .ok (.aload_n 1, 1) := by decide +kernel
theorem dL_law_1439 : decode cL_law 1439 = .ok (.aload_n 0, 1) := by decide +kernel
theorem dL_law_1440 : decode cL_law 1440 = .ok (.iload 5, 2) := by decide +kernel
theorem dL_law_1442 : decode cL_law 1442 = .ok (.iconst 1, 1) := by decide +kernel
theorem dL_law_1443 : decode cL_law 1443 = .ok (.iadd, 1) := by decide +kernel
theorem dL_law_1444 : decode cL_law 1444 = .ok (.iaload, 1) := by decide +kernel
theorem dL_law_1445 : decode cL_law 1445 = .ok (.aload_n 3, 1) := by decide +kernel
theorem dL_law_1446 : decode cL_law 1446 = .ok (.invokestatic 204, 3) := by decide +kernel
theorem dL_law_1449 : decode cL_law 1449 = .ok (.istore 6, 2) := by decide +kernel
theorem dL_law_1451 : decode cL_law 1451 = .ok (.aload_n 2, 1) := by decide +kernel
theorem dL_law_1452 : decode cL_law 1452 = .ok (.aload_n 0, 1) := by decide +kernel
theorem dL_law_1453 : decode cL_law 1453 = .ok (.iload 5, 2) := by decide +kernel
theorem dL_law_1455 : decode cL_law 1455 = .ok (.iconst 1, 1) := by decide +kernel
theorem dL_law_1456 : decode cL_law 1456 = .ok (.iadd, 1) := by decide +kernel
theorem dL_law_1457 : decode cL_law 1457 = .ok (.iaload, 1) := by decide +kernel
theorem dL_law_1458 : decode cL_law 1458 = .ok (.invokevirtual 206, 3) := by decide +kernel
theorem dL_law_1461 : decode cL_law 1461 = .ok (.istore 7, 2) := by decide +kernel
theorem dL_law_1463 : decode cL_law 1463 = .ok (.aload_n 2, 1) := by decide +kernel
theorem dL_law_1464 : decode cL_law 1464 = .ok (.invokevirtual 120, 3) := by decide +kernel
theorem dL_law_1467 : decode cL_law 1467 = .ok (.iload 6, 2) := by decide +kernel
theorem dL_law_1469 : decode cL_law 1469 = .ok (.if_icmp .eq 5, 3) := by decide +kernel
theorem dL_law_1472 : decode cL_law 1472 = .ok (.iconst 0, 1) := by decide +kernel
theorem dL_law_1473 : decode cL_law 1473 = .ok (.ireturn, 1) := by decide +kernel
theorem dL_law_1474 : decode cL_law 1474 = .ok (.iload 6, 2) := by decide +kernel
theorem dL_law_1476 : decode cL_law 1476 = .ok (.ifCond .ne 15, 3) := by decide +kernel
theorem dL_law_1479 : decode cL_law 1479 = .ok (.aload_n 3, 1) := by decide +kernel
theorem dL_law_1480 : decode cL_law 1480 = .ok (.iconst 0, 1) := by decide +kernel
theorem dL_law_1481 : decode cL_law 1481 = .ok (.laload, 1) := by decide +kernel
theorem dL_law_1482 : decode cL_law 1482 = .ok (.iload 7, 2) := by decide +kernel
theorem dL_law_1484 : decode cL_law 1484 = .ok (.i2l, 1) := by decide +kernel
theorem dL_law_1485 : decode cL_law 1485 = .ok (.lcmp, 1) := by decide +kernel
theorem dL_law_1486 : decode cL_law 1486 = .ok (.ifCond .eq 5, 3) := by decide +kernel
theorem dL_law_1489 : decode cL_law 1489 = .ok (.iconst 0, 1) := by decide +kernel
theorem dL_law_1490 : decode cL_law 1490 = .ok (.ireturn, 1) := by decide +kernel
theorem dL_law_1491 : decode cL_law 1491 = .ok (.goto 478, 3) := by decide +kernel
theorem dL_law_1494 : decode cL_law 1494 = .ok (.aload_n 1, 1) := by decide +kernel
theorem dL_law_1495 : decode cL_law 1495 = .ok (.aload_n 0, 1) := by decide +kernel
theorem dL_law_1496 : decode cL_law 1496 = .ok (.iload 5, 2) := by decide +kernel
theorem dL_law_1498 : decode cL_law 1498 = .ok (.iconst 1, 1) := by decide +kernel
theorem dL_law_1499 : decode cL_law 1499 = .ok (.iadd, 1) := by decide +kernel
theorem dL_law_1500 : decode cL_law 1500 = .ok (.iaload, 1) := by decide +kernel
theorem dL_law_1501 : decode cL_law 1501 = .ok (.aload_n 3, 1) := by decide +kernel
theorem dL_law_1502 : decode cL_law 1502 = .ok (.invokestatic 207, 3) := by decide +kernel
theorem dL_law_1505 : decode cL_law 1505 = .ok (.istore 6, 2) := by decide +kernel
theorem dL_law_1507 : decode cL_law 1507 = .ok (.aload_n 2, 1) := by decide +kernel
theorem dL_law_1508 : decode cL_law 1508 = .ok (.aload_n 0, 1) := by decide +kernel
theorem dL_law_1509 : decode cL_law 1509 = .ok (.iload 5, 2) := by decide +kernel
theorem dL_law_1511 : decode cL_law 1511 = .ok (.iconst 1, 1) := by decide +kernel
theorem dL_law_1512 : decode cL_law 1512 = .ok (.iadd, 1) := by decide +kernel
theorem dL_law_1513 : decode cL_law 1513 = .ok (.iaload, 1) := by decide +kernel
theorem dL_law_1514 : decode cL_law 1514 = .ok (.invokevirtual 209, 3) := by decide +kernel
theorem dL_law_1517 : decode cL_law 1517 = .ok (.istore 7, 2) := by decide +kernel
theorem dL_law_1519 : decode cL_law 1519 = .ok (.aload_n 2, 1) := by decide +kernel
theorem dL_law_1520 : decode cL_law 1520 = .ok (.invokevirtual 120, 3) := by decide +kernel
theorem dL_law_1523 : decode cL_law 1523 = .ok (.iload 6, 2) := by decide +kernel
theorem dL_law_1525 : decode cL_law 1525 = .ok (.if_icmp .eq 5, 3) := by decide +kernel
theorem dL_law_1528 : decode cL_law 1528 = .ok (.iconst 0, 1) := by decide +kernel
theorem dL_law_1529 : decode cL_law 1529 = .ok (.ireturn, 1) := by decide +kernel
theorem dL_law_1530 : decode cL_law 1530 = .ok (.iload 6, 2) := by decide +kernel
theorem dL_law_1532 : decode cL_law 1532 = .ok (.ifCond .ne 15, 3) := by decide +kernel
theorem dL_law_1535 : decode cL_law 1535 = .ok (.aload_n 3, 1) := by decide +kernel
theorem dL_law_1536 : decode cL_law 1536 = .ok (.iconst 0, 1) := by decide +kernel
theorem dL_law_1537 : decode cL_law 1537 = .ok (.laload, 1) := by decide +kernel
theorem dL_law_1538 : decode cL_law 1538 = .ok (.iload 7, 2) := by decide +kernel
theorem dL_law_1540 : decode cL_law 1540 = .ok (.i2l, 1) := by decide +kernel
theorem dL_law_1541 : decode cL_law 1541 = .ok (.lcmp, 1) := by decide +kernel
theorem dL_law_1542 : decode cL_law 1542 = .ok (.ifCond .eq 5, 3) := by decide +kernel
theorem dL_law_1545 : decode cL_law 1545 = .ok (.iconst 0, 1) := by decide +kernel
theorem dL_law_1546 : decode cL_law 1546 = .ok (.ireturn, 1) := by decide +kernel
theorem dL_law_1547 : decode cL_law 1547 = .ok (.goto 422, 3) := by decide +kernel
theorem dL_law_1550 : decode cL_law 1550 = .ok (.aload_n 1, 1) := by decide +kernel
theorem dL_law_1551 : decode cL_law 1551 = .ok (.aload_n 0, 1) := by decide +kernel
theorem dL_law_1552 : decode cL_law 1552 = .ok (.iload 5, 2) := by decide +kernel
theorem dL_law_1554 : decode cL_law 1554 = .ok (.iconst 1, 1) := by decide +kernel
theorem dL_law_1555 : decode cL_law 1555 = .ok (.iadd, 1) := by decide +kernel
theorem dL_law_1556 : decode cL_law 1556 = .ok (.iaload, 1) := by decide +kernel
theorem dL_law_1557 : decode cL_law 1557 = .ok (.aload_n 0, 1) := by decide +kernel
theorem dL_law_1558 : decode cL_law 1558 = .ok (.iload 5, 2) := by decide +kernel
theorem dL_law_1560 : decode cL_law 1560 = .ok (.iconst 2, 1) := by decide +kernel
theorem dL_law_1561 : decode cL_law 1561 = .ok (.iadd, 1) := by decide +kernel
theorem dL_law_1562 : decode cL_law 1562 = .ok (.iaload, 1) := by decide +kernel
theorem dL_law_1563 : decode cL_law 1563 = .ok (.aload_n 3, 1) := by decide +kernel
theorem dL_law_1564 : decode cL_law 1564 = .ok (.invokestatic 210, 3) := by decide +kernel
theorem dL_law_1567 : decode cL_law 1567 = .ok (.istore 6, 2) := by decide +kernel
theorem dL_law_1569 : decode cL_law 1569 = .ok (.aload_n 2, 1) := by decide +kernel
theorem dL_law_1570 : decode cL_law 1570 = .ok (.aload_n 0, 1) := by decide +kernel
theorem dL_law_1571 : decode cL_law 1571 = .ok (.iload 5, 2) := by decide +kernel
theorem dL_law_1573 : decode cL_law 1573 = .ok (.iconst 1, 1) := by decide +kernel
theorem dL_law_1574 : decode cL_law 1574 = .ok (.iadd, 1) := by decide +kernel
theorem dL_law_1575 : decode cL_law 1575 = .ok (.iaload, 1) := by decide +kernel
theorem dL_law_1576 : decode cL_law 1576 = .ok (.aload_n 0, 1) := by decide +kernel
theorem dL_law_1577 : decode cL_law 1577 = .ok (.iload 5, 2) := by decide +kernel
theorem dL_law_1579 : decode cL_law 1579 = .ok (.iconst 2, 1) := by decide +kernel
theorem dL_law_1580 : decode cL_law 1580 = .ok (.iadd, 1) := by decide +kernel
theorem dL_law_1581 : decode cL_law 1581 = .ok (.iaload, 1) := by decide +kernel
theorem dL_law_1582 : decode cL_law 1582 = .ok (.invokevirtual 212, 3) := by decide +kernel
theorem dL_law_1585 : decode cL_law 1585 = .ok (.istore 7, 2) := by decide +kernel
theorem dL_law_1587 : decode cL_law 1587 = .ok (.aload_n 2, 1) := by decide +kernel
theorem dL_law_1588 : decode cL_law 1588 = .ok (.invokevirtual 120, 3) := by decide +kernel
theorem dL_law_1591 : decode cL_law 1591 = .ok (.iload 6, 2) := by decide +kernel
theorem dL_law_1593 : decode cL_law 1593 = .ok (.if_icmp .eq 5, 3) := by decide +kernel
theorem dL_law_1596 : decode cL_law 1596 = .ok (.iconst 0, 1) := by decide +kernel
theorem dL_law_1597 : decode cL_law 1597 = .ok (.ireturn, 1) := by decide +kernel
theorem dL_law_1598 : decode cL_law 1598 = .ok (.iload 6, 2) := by decide +kernel
theorem dL_law_1600 : decode cL_law 1600 = .ok (.ifCond .ne 15, 3) := by decide +kernel
theorem dL_law_1603 : decode cL_law 1603 = .ok (.aload_n 3, 1) := by decide +kernel
theorem dL_law_1604 : decode cL_law 1604 = .ok (.iconst 0, 1) := by decide +kernel
theorem dL_law_1605 : decode cL_law 1605 = .ok (.laload, 1) := by decide +kernel
theorem dL_law_1606 : decode cL_law 1606 = .ok (.iload 7, 2) := by decide +kernel
theorem dL_law_1608 : decode cL_law 1608 = .ok (.i2l, 1) := by decide +kernel
theorem dL_law_1609 : decode cL_law 1609 = .ok (.lcmp, 1) := by decide +kernel
theorem dL_law_1610 : decode cL_law 1610 = .ok (.ifCond .eq 5, 3) := by decide +kernel
theorem dL_law_1613 : decode cL_law 1613 = .ok (.iconst 0, 1) := by decide +kernel
theorem dL_law_1614 : decode cL_law 1614 = .ok (.ireturn, 1) := by decide +kernel
theorem dL_law_1615 : decode cL_law 1615 = .ok (.goto 354, 3) := by decide +kernel
theorem dL_law_1618 : decode cL_law 1618 = .ok (.aload_n 1, 1) := by decide +kernel
theorem dL_law_1619 : decode cL_law 1619 = .ok (.aload_n 0, 1) := by decide +kernel
theorem dL_law_1620 : decode cL_law 1620 = .ok (.iload 5, 2) := by decide +kernel
theorem dL_law_1622 : decode cL_law 1622 = .ok (.iconst 1, 1) := by decide +kernel
theorem dL_law_1623 : decode cL_law 1623 = .ok (.iadd, 1) := by decide +kernel
theorem dL_law_1624 : decode cL_law 1624 = .ok (.iaload, 1) := by decide +kernel
theorem dL_law_1625 : decode cL_law 1625 = .ok (.aload_n 3, 1) := by decide +kernel
theorem dL_law_1626 : decode cL_law 1626 = .ok (.invokestatic 213, 3) := by decide +kernel
theorem dL_law_1629 : decode cL_law 1629 = .ok (.istore 6, 2) := by decide +kernel
theorem dL_law_1631 : decode cL_law 1631 = .ok (.aload_n 2, 1) := by decide +kernel
theorem dL_law_1632 : decode cL_law 1632 = .ok (.aload_n 0, 1) := by decide +kernel
theorem dL_law_1633 : decode cL_law 1633 = .ok (.iload 5, 2) := by decide +kernel
theorem dL_law_1635 : decode cL_law 1635 = .ok (.iconst 1, 1) := by decide +kernel
theorem dL_law_1636 : decode cL_law 1636 = .ok (.iadd, 1) := by decide +kernel
theorem dL_law_1637 : decode cL_law 1637 = .ok (.iaload, 1) := by decide +kernel
theorem dL_law_1638 : decode cL_law 1638 = .ok (.invokevirtual 215, 3) := by decide +kernel
theorem dL_law_1641 : decode cL_law 1641 = .ok (.istore 7, 2) := by decide +kernel
theorem dL_law_1643 : decode cL_law 1643 = .ok (.aload_n 2, 1) := by decide +kernel
theorem dL_law_1644 : decode cL_law 1644 = .ok (.invokevirtual 120, 3) := by decide +kernel
theorem dL_law_1647 : decode cL_law 1647 = .ok (.iload 6, 2) := by decide +kernel
theorem dL_law_1649 : decode cL_law 1649 = .ok (.if_icmp .eq 5, 3) := by decide +kernel
theorem dL_law_1652 : decode cL_law 1652 = .ok (.iconst 0, 1) := by decide +kernel
theorem dL_law_1653 : decode cL_law 1653 = .ok (.ireturn, 1) := by decide +kernel
theorem dL_law_1654 : decode cL_law 1654 = .ok (.iload 6, 2) := by decide +kernel
theorem dL_law_1656 : decode cL_law 1656 = .ok (.ifCond .ne 15, 3) := by decide +kernel
theorem dL_law_1659 : decode cL_law 1659 = .ok (.aload_n 3, 1) := by decide +kernel
theorem dL_law_1660 : decode cL_law 1660 = .ok (.iconst 0, 1) := by decide +kernel
theorem dL_law_1661 : decode cL_law 1661 = .ok (.laload, 1) := by decide +kernel
theorem dL_law_1662 : decode cL_law 1662 = .ok (.iload 7, 2) := by decide +kernel
theorem dL_law_1664 : decode cL_law 1664 = .ok (.i2l, 1) := by decide +kernel
theorem dL_law_1665 : decode cL_law 1665 = .ok (.lcmp, 1) := by decide +kernel
theorem dL_law_1666 : decode cL_law 1666 = .ok (.ifCond .eq 5, 3) := by decide +kernel
theorem dL_law_1669 : decode cL_law 1669 = .ok (.iconst 0, 1) := by decide +kernel
theorem dL_law_1670 : decode cL_law 1670 = .ok (.ireturn, 1) := by decide +kernel
theorem dL_law_1671 : decode cL_law 1671 = .ok (.goto 298, 3) := by decide +kernel
theorem dL_law_1674 : decode cL_law 1674 = .ok (.aload_n 1, 1) := by decide +kernel
theorem dL_law_1675 : decode cL_law 1675 = .ok (.aload_n 0, 1) := by decide +kernel
theorem dL_law_1676 : decode cL_law 1676 = .ok (.iload 5, 2) := by decide +kernel
theorem dL_law_1678 : decode cL_law 1678 = .ok (.iconst 1, 1) := by decide +kernel
theorem dL_law_1679 : decode cL_law 1679 = .ok (.iadd, 1) := by decide +kernel
theorem dL_law_1680 : decode cL_law 1680 = .ok (.iaload, 1) := by decide +kernel
theorem dL_law_1681 : decode cL_law 1681 = .ok (.i2c, 1) := by decide +kernel
theorem dL_law_1682 : decode cL_law 1682 = .ok (.aload_n 3, 1) := by decide +kernel
theorem dL_law_1683 : decode cL_law 1683 = .ok (.invokestatic 216, 3) := by decide +kernel
theorem dL_law_1686 : decode cL_law 1686 = .ok (.istore 6, 2) := by decide +kernel
theorem dL_law_1688 : decode cL_law 1688 = .ok (.aload_n 2, 1) := by decide +kernel
theorem dL_law_1689 : decode cL_law 1689 = .ok (.aload_n 0, 1) := by decide +kernel
theorem dL_law_1690 : decode cL_law 1690 = .ok (.iload 5, 2) := by decide +kernel
theorem dL_law_1692 : decode cL_law 1692 = .ok (.iconst 1, 1) := by decide +kernel
theorem dL_law_1693 : decode cL_law 1693 = .ok (.iadd, 1) := by decide +kernel
theorem dL_law_1694 : decode cL_law 1694 = .ok (.iaload, 1) := by decide +kernel
theorem dL_law_1695 : decode cL_law 1695 = .ok (.i2c, 1) := by decide +kernel
theorem dL_law_1696 : decode cL_law 1696 = .ok (.invokevirtual 219, 3) := by decide +kernel
theorem dL_law_1699 : decode cL_law 1699 = .ok (.istore 7, 2) := by decide +kernel
theorem dL_law_1701 : decode cL_law 1701 = .ok (.aload_n 2, 1) := by decide +kernel
theorem dL_law_1702 : decode cL_law 1702 = .ok (.invokevirtual 120, 3) := by decide +kernel
theorem dL_law_1705 : decode cL_law 1705 = .ok (.iload 6, 2) := by decide +kernel
theorem dL_law_1707 : decode cL_law 1707 = .ok (.if_icmp .eq 5, 3) := by decide +kernel
theorem dL_law_1710 : decode cL_law 1710 = .ok (.iconst 0, 1) := by decide +kernel
theorem dL_law_1711 : decode cL_law 1711 = .ok (.ireturn, 1) := by decide +kernel
theorem dL_law_1712 : decode cL_law 1712 = .ok (.iload 6, 2) := by decide +kernel
theorem dL_law_1714 : decode cL_law 1714 = .ok (.ifCond .ne 15, 3) := by decide +kernel
theorem dL_law_1717 : decode cL_law 1717 = .ok (.aload_n 3, 1) := by decide +kernel
theorem dL_law_1718 : decode cL_law 1718 = .ok (.iconst 0, 1) := by decide +kernel
theorem dL_law_1719 : decode cL_law 1719 = .ok (.laload, 1) := by decide +kernel
theorem dL_law_1720 : decode cL_law 1720 = .ok (.iload 7, 2) := by decide +kernel
theorem dL_law_1722 : decode cL_law 1722 = .ok (.i2l, 1) := by decide +kernel
theorem dL_law_1723 : decode cL_law 1723 = .ok (.lcmp, 1) := by decide +kernel
theorem dL_law_1724 : decode cL_law 1724 = .ok (.ifCond .eq 5, 3) := by decide +kernel
theorem dL_law_1727 : decode cL_law 1727 = .ok (.iconst 0, 1) := by decide +kernel
theorem dL_law_1728 : decode cL_law 1728 = .ok (.ireturn, 1) := by decide +kernel
theorem dL_law_1729 : decode cL_law 1729 = .ok (.goto 240, 3) := by decide +kernel
theorem dL_law_1732 : decode cL_law 1732 = .ok (.aload_n 1, 1) := by decide +kernel
theorem dL_law_1733 : decode cL_law 1733 = .ok (.aload_n 0, 1) := by decide +kernel
theorem dL_law_1734 : decode cL_law 1734 = .ok (.iload 5, 2) := by decide +kernel
theorem dL_law_1736 : decode cL_law 1736 = .ok (.iconst 1, 1) := by decide +kernel
theorem dL_law_1737 : decode cL_law 1737 = .ok (.iadd, 1) := by decide +kernel
theorem dL_law_1738 : decode cL_law 1738 = .ok (.iaload, 1) := by decide +kernel
theorem dL_law_1739 : decode cL_law 1739 = .ok (.aload_n 0, 1) := by decide +kernel
theorem dL_law_1740 : decode cL_law 1740 = .ok (.iload 5, 2) := by decide +kernel
theorem dL_law_1742 : decode cL_law 1742 = .ok (.iconst 2, 1) := by decide +kernel
theorem dL_law_1743 : decode cL_law 1743 = .ok (.iadd, 1) := by decide +kernel
theorem dL_law_1744 : decode cL_law 1744 = .ok (.iaload, 1) := by decide +kernel
theorem dL_law_1745 : decode cL_law 1745 = .ok (.aload_n 0, 1) := by decide +kernel
theorem dL_law_1746 : decode cL_law 1746 = .ok (.iload 5, 2) := by decide +kernel
theorem dL_law_1748 : decode cL_law 1748 = .ok (.iconst 3, 1) := by decide +kernel
theorem dL_law_1749 : decode cL_law 1749 = .ok (.iadd, 1) := by decide +kernel
theorem dL_law_1750 : decode cL_law 1750 = .ok (.iaload, 1) := by decide +kernel
theorem dL_law_1751 : decode cL_law 1751 = .ok (.aload_n 3, 1) := by decide +kernel
theorem dL_law_1752 : decode cL_law 1752 = .ok (.invokestatic 220, 3) := by decide +kernel
theorem dL_law_1755 : decode cL_law 1755 = .ok (.istore 6, 2) := by decide +kernel
theorem dL_law_1757 : decode cL_law 1757 = .ok (.aload_n 2, 1) := by decide +kernel
theorem dL_law_1758 : decode cL_law 1758 = .ok (.aload_n 0, 1) := by decide +kernel
theorem dL_law_1759 : decode cL_law 1759 = .ok (.iload 5, 2) := by decide +kernel
theorem dL_law_1761 : decode cL_law 1761 = .ok (.iconst 1, 1) := by decide +kernel
theorem dL_law_1762 : decode cL_law 1762 = .ok (.iadd, 1) := by decide +kernel
theorem dL_law_1763 : decode cL_law 1763 = .ok (.iaload, 1) := by decide +kernel
theorem dL_law_1764 : decode cL_law 1764 = .ok (.aload_n 0, 1) := by decide +kernel
theorem dL_law_1765 : decode cL_law 1765 = .ok (.iload 5, 2) := by decide +kernel
theorem dL_law_1767 : decode cL_law 1767 = .ok (.iconst 2, 1) := by decide +kernel
theorem dL_law_1768 : decode cL_law 1768 = .ok (.iadd, 1) := by decide +kernel
theorem dL_law_1769 : decode cL_law 1769 = .ok (.iaload, 1) := by decide +kernel
theorem dL_law_1770 : decode cL_law 1770 = .ok (.aload_n 0, 1) := by decide +kernel
theorem dL_law_1771 : decode cL_law 1771 = .ok (.iload 5, 2) := by decide +kernel
theorem dL_law_1773 : decode cL_law 1773 = .ok (.iconst 3, 1) := by decide +kernel
theorem dL_law_1774 : decode cL_law 1774 = .ok (.iadd, 1) := by decide +kernel
theorem dL_law_1775 : decode cL_law 1775 = .ok (.iaload, 1) := by decide +kernel
theorem dL_law_1776 : decode cL_law 1776 = .ok (.invokevirtual 222, 3) := by decide +kernel
theorem dL_law_1779 : decode cL_law 1779 = .ok (.istore 7, 2) := by decide +kernel
theorem dL_law_1781 : decode cL_law 1781 = .ok (.aload_n 2, 1) := by decide +kernel
theorem dL_law_1782 : decode cL_law 1782 = .ok (.invokevirtual 120, 3) := by decide +kernel
theorem dL_law_1785 : decode cL_law 1785 = .ok (.iload 6, 2) := by decide +kernel
theorem dL_law_1787 : decode cL_law 1787 = .ok (.if_icmp .eq 5, 3) := by decide +kernel
theorem dL_law_1790 : decode cL_law 1790 = .ok (.iconst 0, 1) := by decide +kernel
theorem dL_law_1791 : decode cL_law 1791 = .ok (.ireturn, 1) := by decide +kernel
theorem dL_law_1792 : decode cL_law 1792 = .ok (.iload 6, 2) := by decide +kernel
theorem dL_law_1794 : decode cL_law 1794 = .ok (.ifCond .ne 15, 3) := by decide +kernel
theorem dL_law_1797 : decode cL_law 1797 = .ok (.aload_n 3, 1) := by decide +kernel
theorem dL_law_1798 : decode cL_law 1798 = .ok (.iconst 0, 1) := by decide +kernel
theorem dL_law_1799 : decode cL_law 1799 = .ok (.laload, 1) := by decide +kernel
theorem dL_law_1800 : decode cL_law 1800 = .ok (.iload 7, 2) := by decide +kernel
theorem dL_law_1802 : decode cL_law 1802 = .ok (.i2l, 1) := by decide +kernel
theorem dL_law_1803 : decode cL_law 1803 = .ok (.lcmp, 1) := by decide +kernel
theorem dL_law_1804 : decode cL_law 1804 = .ok (.ifCond .eq 5, 3) := by decide +kernel
theorem dL_law_1807 : decode cL_law 1807 = .ok (.iconst 0, 1) := by decide +kernel
theorem dL_law_1808 : decode cL_law 1808 = .ok (.ireturn, 1) := by decide +kernel
theorem dL_law_1809 : decode cL_law 1809 = .ok (.goto 160, 3) := by decide +kernel
theorem dL_law_1812 : decode cL_law 1812 = .ok (.aload_n 1, 1) := by decide +kernel
theorem dL_law_1813 : decode cL_law 1813 = .ok (.invokevirtual 223, 3) := by decide +kernel
theorem dL_law_1816 : decode cL_law 1816 = .ok (.aload_n 2, 1) := by decide +kernel
theorem dL_law_1817 : decode cL_law 1817 = .ok (.invokevirtual 226, 3) := by decide +kernel
theorem dL_law_1820 : decode cL_law 1820 = .ok (.if_icmp .eq 149, 3) := by decide +kernel
theorem dL_law_1823 : decode cL_law 1823 = .ok (.iconst 0, 1) := by decide +kernel
theorem dL_law_1824 : decode cL_law 1824 = .ok (.ireturn, 1) := by decide +kernel
theorem dL_law_1825 : decode cL_law 1825 = .ok (.aload_n 1, 1) := by decide +kernel
theorem dL_law_1826 : decode cL_law 1826 = .ok (.invokevirtual 227, 3) := by decide +kernel
theorem dL_law_1829 : decode cL_law 1829 = .ok (.aload_n 2, 1) := by decide +kernel
theorem dL_law_1830 : decode cL_law 1830 = .ok (.invokevirtual 231, 3) := by decide +kernel
theorem dL_law_1833 : decode cL_law 1833 = .ok (.if_icmp .eq 136, 3) := by decide +kernel
theorem dL_law_1836 : decode cL_law 1836 = .ok (.iconst 0, 1) := by decide +kernel
theorem dL_law_1837 : decode cL_law 1837 = .ok (.ireturn, 1) := by decide +kernel
theorem dL_law_1838 : decode cL_law 1838 = .ok (.aload_n 1, 1) := by decide +kernel
theorem dL_law_1839 : decode cL_law 1839 = .ok (.aload 4, 2) := by decide +kernel
theorem dL_law_1841 : decode cL_law 1841 = .ok (.invokestatic 232, 3) := by decide +kernel
theorem dL_law_1844 : decode cL_law 1844 = .ok (.istore 6, 2) := by decide +kernel
theorem dL_law_1846 : decode cL_law 1846 = .ok (.aload_n 2, 1) := by decide +kernel
theorem dL_law_1847 : decode cL_law 1847 = .ok (.invokevirtual 235, 3) := by decide +kernel
theorem dL_law_1850 : decode cL_law 1850 = .ok (.fstore 7, 2) := by decide +kernel
theorem dL_law_1852 : decode cL_law 1852 = .ok (.aload_n 2, 1) := by decide +kernel
theorem dL_law_1853 : decode cL_law 1853 = .ok (.invokevirtual 120, 3) := by decide +kernel
theorem dL_law_1856 : decode cL_law 1856 = .ok (.iload 6, 2) := by decide +kernel
theorem dL_law_1858 : decode cL_law 1858 = .ok (.if_icmp .eq 5, 3) := by decide +kernel
theorem dL_law_1861 : decode cL_law 1861 = .ok (.iconst 0, 1) := by decide +kernel
theorem dL_law_1862 : decode cL_law 1862 = .ok (.ireturn, 1) := by decide +kernel
theorem dL_law_1863 : decode cL_law 1863 = .ok (.iload 6, 2) := by decide +kernel
theorem dL_law_1865 : decode cL_law 1865 = .ok (.ifCond .ne 36, 3) := by decide +kernel
theorem dL_law_1868 : decode cL_law 1868 = .ok (.aload 4, 2) := by decide +kernel
theorem dL_law_1870 : decode cL_law 1870 = .ok (.iconst 0, 1) := by decide +kernel
theorem dL_law_1871 : decode cL_law 1871 = .ok (.daload, 1) := by decide +kernel
theorem dL_law_1872 : decode cL_law 1872 = .ok (.fload 7, 2) := by decide +kernel
theorem dL_law_1874 : decode cL_law 1874 = .ok (.f2d, 1) := by decide +kernel
theorem dL_law_1875 : decode cL_law 1875 = .ok (.dcmp .l, 1) := by decide +kernel
theorem dL_law_1876 : decode cL_law 1876 = .ok (.ifCond .eq 25, 3) := by decide +kernel
theorem dL_law_1879 : decode cL_law 1879 = .ok (.aload 4, 2) := by decide +kernel
theorem dL_law_1881 : decode cL_law 1881 = .ok (.iconst 0, 1) := by decide +kernel
theorem dL_law_1882 : decode cL_law 1882 = .ok (.daload, 1) := by decide +kernel
theorem dL_law_1883 : decode cL_law 1883 = .ok (.aload 4, 2) := by decide +kernel
theorem dL_law_1885 : decode cL_law 1885 = .ok (.iconst 0, 1) := by decide +kernel
theorem dL_law_1886 : decode cL_law 1886 = .ok (.daload, 1) := by decide +kernel
theorem dL_law_1887 : decode cL_law 1887 = .ok (.dcmp .l, 1) := by decide +kernel
theorem dL_law_1888 : decode cL_law 1888 = .ok (.ifCond .eq 11, 3) := by decide +kernel
theorem dL_law_1891 : decode cL_law 1891 = .ok (.fload 7, 2) := by decide +kernel
theorem dL_law_1893 : decode cL_law 1893 = .ok (.fload 7, 2) := by decide +kernel
theorem dL_law_1895 : decode cL_law 1895 = .ok (.fcmp .l, 1) := by decide +kernel
theorem dL_law_1896 : decode cL_law 1896 = .ok (.ifCond .ne 5, 3) := by decide +kernel
theorem dL_law_1899 : decode cL_law 1899 = .ok (.iconst 0, 1) := by decide +kernel
theorem dL_law_1900 : decode cL_law 1900 = .ok (.ireturn, 1) := by decide +kernel
theorem dL_law_1901 : decode cL_law 1901 = .ok (.goto 68, 3) := by decide +kernel
theorem dL_law_1904 : decode cL_law 1904 = .ok (.aload_n 1, 1) := by decide +kernel
theorem dL_law_1905 : decode cL_law 1905 = .ok (.aload 4, 2) := by decide +kernel
theorem dL_law_1907 : decode cL_law 1907 = .ok (.invokestatic 236, 3) := by decide +kernel
theorem dL_law_1910 : decode cL_law 1910 = .ok (.istore 6, 2) := by decide +kernel
theorem dL_law_1912 : decode cL_law 1912 = .ok (.aload_n 2, 1) := by decide +kernel
theorem dL_law_1913 : decode cL_law 1913 = .ok (.invokevirtual 238, 3) := by decide +kernel
theorem dL_law_1916 : decode cL_law 1916 = .ok (.dstore 7, 2) := by decide +kernel
theorem dL_law_1918 : decode cL_law 1918 = .ok (.aload_n 2, 1) := by decide +kernel
theorem dL_law_1919 : decode cL_law 1919 = .ok (.invokevirtual 120, 3) := by decide +kernel
theorem dL_law_1922 : decode cL_law 1922 = .ok (.iload 6, 2) := by decide +kernel
theorem dL_law_1924 : decode cL_law 1924 = .ok (.if_icmp .eq 5, 3) := by decide +kernel
theorem dL_law_1927 : decode cL_law 1927 = .ok (.iconst 0, 1) := by decide +kernel
theorem dL_law_1928 : decode cL_law 1928 = .ok (.ireturn, 1) := by decide +kernel
theorem dL_law_1929 : decode cL_law 1929 = .ok (.iload 6, 2) := by decide +kernel
theorem dL_law_1931 : decode cL_law 1931 = .ok (.ifCond .ne 35, 3) := by decide +kernel
theorem dL_law_1934 : decode cL_law 1934 = .ok (.aload 4, 2) := by decide +kernel
theorem dL_law_1936 : decode cL_law 1936 = .ok (.iconst 0, 1) := by decide +kernel
theorem dL_law_1937 : decode cL_law 1937 = .ok (.daload, 1) := by decide +kernel
theorem dL_law_1938 : decode cL_law 1938 = .ok (.dload 7, 2) := by decide +kernel
theorem dL_law_1940 : decode cL_law 1940 = .ok (.dcmp .l, 1) := by decide +kernel
theorem dL_law_1941 : decode cL_law 1941 = .ok (.ifCond .eq 25, 3) := by decide +kernel
theorem dL_law_1944 : decode cL_law 1944 = .ok (.aload 4, 2) := by decide +kernel
theorem dL_law_1946 : decode cL_law 1946 = .ok (.iconst 0, 1) := by decide +kernel
theorem dL_law_1947 : decode cL_law 1947 = .ok (.daload, 1) := by decide +kernel
theorem dL_law_1948 : decode cL_law 1948 = .ok (.aload 4, 2) := by decide +kernel
theorem dL_law_1950 : decode cL_law 1950 = .ok (.iconst 0, 1) := by decide +kernel
theorem dL_law_1951 : decode cL_law 1951 = .ok (.daload, 1) := by decide +kernel
theorem dL_law_1952 : decode cL_law 1952 = .ok (.dcmp .l, 1) := by decide +kernel
theorem dL_law_1953 : decode cL_law 1953 = .ok (.ifCond .eq 11, 3) := by decide +kernel
theorem dL_law_1956 : decode cL_law 1956 = .ok (.dload 7, 2) := by decide +kernel
theorem dL_law_1958 : decode cL_law 1958 = .ok (.dload 7, 2) := by decide +kernel
theorem dL_law_1960 : decode cL_law 1960 = .ok (.dcmp .l, 1) := by decide +kernel
theorem dL_law_1961 : decode cL_law 1961 = .ok (.ifCond .ne 5, 3) := by decide +kernel
theorem dL_law_1964 : decode cL_law 1964 = .ok (.iconst 0, 1) := by decide +kernel
theorem dL_law_1965 : decode cL_law 1965 = .ok (.ireturn, 1) := by decide +kernel
theorem dL_law_1966 : decode cL_law 1966 = .ok (.goto 3, 3) := by decide +kernel
theorem dL_law_1969 : decode cL_law 1969 = .ok (.iinc 5 5, 3) := by decide +kernel
theorem dL_law_1972 : decode cL_law 1972 = .ok (.goto (-1944), 3) := by decide +kernel
theorem dL_law_1975 : decode cL_law 1975 = .ok (.iconst 1, 1) := by decide +kernel
theorem dL_law_1976 : decode cL_law 1976 = .ok (.ireturn, 1) := by decide +kernel
end
section
/-! base: a heap state in functions of addresses; worlds; the walk V over them -/
abbrev HS : Type := (Nat → Nat) × (Nat → Nat → Int32) × (Nat → Nat → Int64) × (Nat → Nat → Option Nat) × (Nat → Nat) × (Nat → Nat → Int32) × (Nat → Nat → Int64) × (Nat → Nat → Option Nat) × (Nat → Nat → UInt64)
def hK (S : HS) (a : Nat) : Nat := S.1 a
def hI (S : HS) (f a : Nat) : Int32 := S.2.1 f a
def hJ (S : HS) (f a : Nat) : Int64 := S.2.2.1 f a
def hR (S : HS) (f a : Nat) : Option Nat := S.2.2.2.1 f a
def hN (S : HS) (a : Nat) : Nat := S.2.2.2.2.1 a
def aI (S : HS) (a j : Nat) : Int32 := S.2.2.2.2.2.1 a j
def aJ (S : HS) (a j : Nat) : Int64 := S.2.2.2.2.2.2.1 a j
def aR (S : HS) (a j : Nat) : Option Nat := S.2.2.2.2.2.2.2.1 a j
def aD (S : HS) (a j : Nat) : UInt64 := S.2.2.2.2.2.2.2.2 a j
def u2 {α : Type} (g : Nat → Nat → α) (f a : Nat) (v : α) : Nat → Nat → α := fun f' a' => if f' = f ∧ a' = a then v else g f' a'
def ur {α : Type} (g : Nat → Nat → α) (a : Nat) (r : Nat → α) : Nat → Nat → α := fun a' j => if a' = a then r j else g a' j
def uz {α : Type} (g : Nat → Nat → α) (a : Nat) (v : α) : Nat → Nat → α := fun f' a' => if a' = a then v else g f' a'
def sI (S : HS) (f a : Nat) (v : Int32) : HS := (S.1, u2 S.2.1 f a v, S.2.2)
def sJ (S : HS) (f a : Nat) (v : Int64) : HS := (S.1, S.2.1, u2 S.2.2.1 f a v, S.2.2.2)
def sR (S : HS) (f a : Nat) (v : Option Nat) : HS := (S.1, S.2.1, S.2.2.1, u2 S.2.2.2.1 f a v, S.2.2.2.2)
def tI (S : HS) (a j : Nat) (v : Int32) : HS := (S.1, S.2.1, S.2.2.1, S.2.2.2.1, S.2.2.2.2.1, u2 S.2.2.2.2.2.1 a j v, S.2.2.2.2.2.2)
def tJ (S : HS) (a j : Nat) (v : Int64) : HS := (S.1, S.2.1, S.2.2.1, S.2.2.2.1, S.2.2.2.2.1, S.2.2.2.2.2.1, u2 S.2.2.2.2.2.2.1 a j v, S.2.2.2.2.2.2.2)
def tR (S : HS) (a j : Nat) (v : Option Nat) : HS := (S.1, S.2.1, S.2.2.1, S.2.2.2.1, S.2.2.2.2.1, S.2.2.2.2.2.1, S.2.2.2.2.2.2.1, u2 S.2.2.2.2.2.2.2.1 a j v, S.2.2.2.2.2.2.2.2)
def tD (S : HS) (a j : Nat) (v : UInt64) : HS := (S.1, S.2.1, S.2.2.1, S.2.2.2.1, S.2.2.2.2.1, S.2.2.2.2.2.1, S.2.2.2.2.2.2.1, S.2.2.2.2.2.2.2.1, u2 S.2.2.2.2.2.2.2.2 a j v)
/-- a whole int row -/
def rI (S : HS) (a : Nat) (r : Nat → Int32) : HS := (S.1, S.2.1, S.2.2.1, S.2.2.2.1, S.2.2.2.2.1, ur S.2.2.2.2.2.1 a r, S.2.2.2.2.2.2)
def nO (S : HS) (a kd : Nat) : HS := (va_up S.1 a kd, uz S.2.1 a 0, uz S.2.2.1 a 0, uz S.2.2.2.1 a none, S.2.2.2.2)
def nA (S : HS) (a kd n : Nat) : HS := (va_up S.1 a kd, S.2.1, S.2.2.1, S.2.2.2.1, va_up S.2.2.2.2.1 a n, ur S.2.2.2.2.2.1 a (fun _ => 0), ur S.2.2.2.2.2.2.1 a (fun _ => 0), ur S.2.2.2.2.2.2.2.1 a (fun _ => none), ur S.2.2.2.2.2.2.2.2 a (fun _ => 0))
def hs0 : HS := (fun _ => 0, fun _ _ => 0, fun _ _ => 0, fun _ _ => none, fun _ => 0, fun _ _ => 0, fun _ _ => 0, fun _ _ => none, fun _ _ => 0)
def fds : Nat → List (Nat × Nat)
  | 1 => [(0, 0), (0, 1), (0, 2), (0, 3), (0, 4)]
  | 2 => [(0, 5), (0, 6), (2, 7), (2, 8), (1, 9), (2, 10), (2, 11), (1, 12)]
  | 3 => [(0, 13), (0, 14), (0, 15)]
  | 4 => [(0, 16), (0, 17), (0, 18), (0, 19), (0, 20), (0, 21), (0, 22), (0, 23), (0, 24), (0, 25), (2, 26), (0, 27)]
  | 5 => [(2, 28), (2, 29), (0, 30), (2, 31), (0, 32), (2, 33), (0, 34), (0, 35), (0, 36), (0, 37), (0, 38), (0, 39), (0, 40)]
  | 6 => [(2, 41), (2, 42), (2, 43), (0, 44), (2, 45), (2, 46), (2, 47), (2, 48), (2, 49), (0, 50), (0, 51), (0, 52), (0, 53), (0, 54), (0, 55), (0, 56), (0, 57), (2, 58), (2, 59), (1, 60), (0, 61), (2, 62)]
  | _ => []
def fv (S : HS) (a : Nat) (q : Nat × Nat) : Value := if q.1 = 0 then .int (hI S q.2 a) else if q.1 = 1 then .long (hJ S q.2 a) else va_rf (hR S q.2 a)
/-- the numbers of the tables: classes and slots; array classes; the constant texts' cells -/
abbrev GT : Type := va_G × (Nat → ClassId) × (Nat → Nat)
def cA (S : HS) (a : Nat) : vp_A := (hN S a, if hK S a < 12 then .inl (aI S a) else if hK S a = 12 then .inr (.inl (aJ S a)) else if hK S a = 18 then .inr (.inr (.inr (.inl (aD S a)))) else .inr (.inr (.inr (.inr (aR S a)))))
def cE (G : GT) (S : HS) (a : Nat) : Option va_E := if hK S a = 0 then none else if hK S a < 7 then some (.inr (hK S a + 1, (fds (hK S a)).map (fv S a))) else some (.inl (G.2.1 (hK S a), cA S a))
def wL (ws : va_W) (F : Nat → Option va_E) : Prop := ∀ (b : Nat) (e : va_E), F b = some e ↔ ∃ j : Nat, ws[j]? = some (b, e)
def Wd (G : GT) (A : Nat → Prop) (S : HS) (H : Heap) : Prop := ∃ ws : va_W, va_P G.1 vwCl ws H ∧ va_D A ws ∧ wL ws (cE G S)
def tysG (G : GT) : List (ClassId × FieldType) := [(G.2.1 10, .int), (G.2.1 11, .char), (G.2.1 12, .long), (G.2.1 13, .object RX0), (G.2.1 14, .object RX2), (G.2.1 15, .object RX3), (G.2.1 16, .array .long), (G.2.1 17, .array .char), (G.2.1 18, .double)]
def tyA : Nat → FieldType
  | 10 => .int
  | 11 => .char
  | 12 => .long
  | 13 => .object RX0
  | 14 => .object RX2
  | 15 => .object RX3
  | 16 => .array .long
  | 17 => .array .char
  | _ => .double
def gK (G : GT) (U : State) : Prop := va_K G.1 vwCl (tysG G) U ∧ ∃ kA : Class, U.vm.classes[G.2.1 17]? = some kA ∧ kA.kind = .array (G.2.1 11) (.array .char)
theorem gK.moved {G : GT} {u U : State} (hvm : u.vm.Alike U.vm) (h : gK G u) : gK G U := by
  obtain ⟨h1, kA, h2, h3⟩ := h
  obtain ⟨k', hk', he⟩ := hvm.2.2 _ _ h2
  exact ⟨va_K.moved hvm h1, k', hk', by rw [he]; exact h3⟩
theorem gK_ty {G : GT} {kd : Nat} (h1 : 10 ≤ kd) (h2 : kd ≤ 18) : (tysG G)[kd - 10]? = some (G.2.1 kd, tyA kd) := by
  have hc : kd = 10 ∨ kd = 11 ∨ kd = 12 ∨ kd = 13 ∨ kd = 14 ∨ kd = 15 ∨ kd = 16 ∨ kd = 17 ∨ kd = 18 := by omega
  rcases hc with rfl | rfl | rfl | rfl | rfl | rfl | rfl | rfl | rfl <;> rfl
/-- the texts of the class, where they stand -/
def strs : List (Nat × String) := [(81, "no such sensor"), (98, "the batch is full"), (105, "the batch is empty"), (161, "no such report"), (304, "not merged"), (314, "no such sign"), (331, "no track is live"), (333, "no such track"), (335, "no such live track"), (339, "no report was processed"), (344, "an argument is out of range"), (320, "nhxlmg")]
/-- what stands outside the worlds: two statics of Throwable, the texts, String's own static, the text of signs -/
def gE (G : GT) (A : Nat → Prop) (U : State) (H : Heap) : Prop :=
  vx_Zq Bundle.tN "UNASSIGNED_STACK" Bundle.steD A U H ∧ vx_Zq Bundle.tN "SUPPRESSED_SENTINEL" Bundle.listD A U H ∧ (∀ q ∈ strs, vk_R RX4 q.1 q.2 (G.2.2 q.1) U) ∧
  va_Z "java/lang/String" "COMPACT_STRINGS" "Z" (.int 1) A U H ∧
  va_O "java/lang/String" (G.2.2 320) A U H ∧ va_OF "java/lang/String" "coder" "B" (.int 0) (G.2.2 320) A U H ∧ va_OF "java/lang/String" "value" "[B" (.ref (G.2.2 0)) (G.2.2 320) A U H ∧ va_T .byte (G.2.2 0) 6 (fun j => .int (([110, 104, 120, 108, 109, 103] : List Int32).getD j 0)) A U H
def wsG : List Cond := lw_tbl.filter goodWord
theorem wsG_in {w : Cond} (i : Nat) (h : lw_tbl[i]? = some w) (hg : goodWord w = true) : w ∈ wsG := List.mem_filter.mpr ⟨List.mem_of_getElem? h, hg⟩
theorem wsG_good {w : Cond} (h : w ∈ wsG) : goodWord w = true := (List.mem_filter.mp h).2
theorem goodIn_G {big : List Cond} {w : Cond} (hw : w ∈ wsG) : GoodIn (big ++ wsG) (w :: wsG) := fun v hv => by
  have h : v ∈ wsG := by
    rcases List.mem_cons.mp hv with rfl | h
    · exact hw
    · exact h
  exact ⟨List.mem_append_right _ h, good_of_word (wsG_good h)⟩
def dA (S : HS) (sz : Nat) : Nat → Prop := fun q => hK S q ≠ 0 ∨ sz ≤ q
def wB (G : GT) (S : HS) (sz : Nat) (U : State) : Prop := U.heap.size = sz ∧ Wd G (dA S sz) S U.heap ∧ gK G U ∧ gE G (dA S sz) U U.heap
def wE (G : GT) (A : Nat → Prop) (u : HS) (t : State) : Prop := Wd G A u t.heap ∧ gK G t
def gQ (post : Option Value → HS → Prop) (G : GT) (A : Nat → Prop) : Array Value → State → Outcome → State → Prop := fun _ st oc t => (∃ (v : Option Value) (u : HS), oc = .returned v ∧ post v u ∧ wE G A u t) ∧ va_F A st t
def gX (px : String → HS → Prop) (G : GT) (A : Nat → Prop) : String → State → State → Prop := vx_X (fun _ : HS => True) (fun E u t => px E u ∧ wE G A u t) A
def rmD (d mc ms : Nat) : Room := { frames := d, cells := mc, slots := ms, locals := 40 * d }
/-- a contract: from the world S, with the arguments av, it returns, and what it answers and the world behind it are as 'post' says -/
def cM (l : Launch) (y : MethodName) (cc : ByteArray) (maxL : Nat) (ret : Option FieldType) (d : Nat) (av : List Value) (S : HS) (post : Option Value → HS → Prop) (mc ms : Nat) : Prop :=
  ∀ (G : GT) (sz : Nat), Met l y (.code y cc maxL ret :: wsG) (rmD d mc ms) (va_Pc av (wB G S sz)) (gQ post G (dA S sz)) mc ms (dA S sz)
/-- the same of a method that may throw: the class of what it throws, and the world then, are as 'px' says -/
def cX (l : Launch) (y : MethodName) (cc : ByteArray) (maxL : Nat) (ret : Option FieldType) (d : Nat) (av : List Value) (S : HS) (post : Option Value → HS → Prop) (px : String → HS → Prop) (mc ms : Nat) : Prop :=
  ∀ (G : GT) (sz : Nat), vx_Met l y (.code y cc maxL ret :: wsG) (rmD d mc ms) (va_Pc av (wB G S sz)) (gQ post G (dA S sz)) (gX px G (dA S sz)) mc ms (dA S sz)
def pI (f : Int32 → HS → Prop) : Option Value → HS → Prop := fun v u => ∃ r : Int32, v = some (.int r) ∧ f r u
def pL (f : Int64 → HS → Prop) : Option Value → HS → Prop := fun v u => ∃ r : Int64, v = some (.long r) ∧ f r u
def pF (f : UInt32 → HS → Prop) : Option Value → HS → Prop := fun v u => ∃ r : UInt32, v = some (.float r) ∧ f r u
def pD (f : UInt64 → HS → Prop) : Option Value → HS → Prop := fun v u => ∃ r : UInt64, v = some (.double r) ∧ f r u
def pQ (f : Option Nat → HS → Prop) : Option Value → HS → Prop := fun v u => ∃ r : Option Nat, v = some (va_rf r) ∧ f r u
def pV (f : HS → Prop) : Option Value → HS → Prop := fun v u => v = none ∧ f u
theorem wL_set {ws : va_W} {A : Nat → Prop} {F : Nat → Option va_E} (hD : va_D A ws) (h : wL ws F) {k a : Nat} {e0 e1 : va_E} (hk : ws[k]? = some (a, e0)) : wL (ws.set k (a, e1)) (fun b => if b = a then some e1 else F b) := by
  have hlt : k < ws.length := (List.getElem?_eq_some_iff.mp hk).1
  intro b e
  constructor
  · intro hb
    replace hb : (if b = a then some e1 else F b) = some e := hb
    by_cases hba : b = a
    · subst hba
      rw [if_pos rfl] at hb
      cases hb
      exact ⟨k, by rw [List.getElem?_set_self hlt]⟩
    · rw [if_neg hba] at hb
      obtain ⟨j, hj⟩ := (h b e).mp hb
      refine ⟨j, ?_⟩
      rw [List.getElem?_set_ne (fun q => ?_)]
      · exact hj
      · subst q
        rw [hk] at hj
        cases hj
        exact hba rfl
  · rintro ⟨j, hj⟩
    by_cases hjk : k = j
    · subst hjk
      rw [List.getElem?_set_self hlt] at hj
      cases hj
      exact if_pos rfl
    · rw [List.getElem?_set_ne hjk] at hj
      have hne : b ≠ a := fun q => hjk (hD.1 k j _ _ hk hj (by rw [q]))
      exact (if_neg hne).trans ((h b e).mpr ⟨j, hj⟩)
theorem wL_push {ws : va_W} {F : Nat → Option va_E} (h : wL ws F) {a : Nat} {e1 : va_E} (hn : F a = none) : wL (ws ++ [(a, e1)]) (fun b => if b = a then some e1 else F b) := by
  intro b e
  constructor
  · intro hb
    replace hb : (if b = a then some e1 else F b) = some e := hb
    by_cases hba : b = a
    · subst hba
      rw [if_pos rfl] at hb
      cases hb
      exact ⟨ws.length, by rw [List.getElem?_append_right (Nat.le_refl _)]; simp⟩
    · rw [if_neg hba] at hb
      obtain ⟨j, hj⟩ := (h b e).mp hb
      exact ⟨j, by rw [List.getElem?_append_left ((List.getElem?_eq_some_iff.mp hj).1)]; exact hj⟩
  · rintro ⟨j, hj⟩
    by_cases hlt : j < ws.length
    · rw [List.getElem?_append_left hlt] at hj
      have hFb := (h b e).mpr ⟨j, hj⟩
      have hne : b ≠ a := fun q => by rw [q, hn] at hFb; cases hFb
      exact (if_neg hne).trans hFb
    · rw [List.getElem?_append_right (Nat.not_lt.mp hlt)] at hj
      have hz : j - ws.length < 1 := (List.getElem?_eq_some_iff.mp hj).1
      rw [show j - ws.length = 0 by omega] at hj
      cases hj
      exact if_pos rfl
theorem wL_congr {ws : va_W} {F F' : Nat → Option va_E} (h : wL ws F) (he : ∀ b, F' b = F b) : wL ws F' := fun b e => by rw [he b]; exact h b e
theorem Wd.fresh {G : GT} {A : Nat → Prop} {S : HS} {H : Heap} (h : Wd G A S H) {a : Nat} (ha : H.size ≤ a) : cE G S a = none := by
  obtain ⟨ws, hP, hD, hL⟩ := h
  cases hc : cE G S a with
  | none => rfl
  | some e =>
    obtain ⟨j, hj⟩ := (hL a e).mp hc
    have := (hP j _ hj).lt
    exact absurd this (by show ¬ a < H.size; omega)
theorem cE_none {G : GT} {S : HS} {a : Nat} : cE G S a = none ↔ hK S a = 0 := by
  unfold cE
  by_cases h0 : hK S a = 0
  · simp [h0]
  · by_cases h7 : hK S a < 7 <;> simp [h0, h7]
theorem Wd.fresh0 {G : GT} {A : Nat → Prop} {S : HS} {H : Heap} (h : Wd G A S H) : hK S H.size = 0 := cE_none.mp (h.fresh (Nat.le_refl _))
theorem Wd.dom {G : GT} {A : Nat → Prop} {S : HS} {H : Heap} (h : Wd G A S H) {a : Nat} (ha : hK S a ≠ 0) : A a ∧ a < H.size := by
  obtain ⟨ws, hP, hD, hL⟩ := h
  cases hc : cE G S a with
  | none => exact absurd (cE_none.mp hc) ha
  | some e =>
    obtain ⟨j, hj⟩ := (hL a e).mp hc
    exact ⟨hD.2 j _ hj, (hP j _ hj).lt⟩
theorem Wd.weaken {G : GT} {A B : Nat → Prop} {S : HS} {H : Heap} (h : Wd G A S H) (hAB : ∀ q, hK S q ≠ 0 → B q) : Wd G B S H := by
  obtain ⟨ws, hP, hD, hL⟩ := h
  refine ⟨ws, hP, ⟨hD.1, fun k q hq => hAB q.1 (fun h0 => ?_)⟩, hL⟩
  have := (hL q.1 q.2).mpr ⟨k, hq⟩
  rw [cE_none.mpr h0] at this
  cases this
theorem Wd.kept {G : GT} {A : Nat → Prop} {S : HS} {H H1 : Heap} (h : Wd G A S H) (hq : ∀ q, hK S q ≠ 0 → H1[q]? = H[q]?) : Wd G A S H1 := by
  obtain ⟨ws, hP, hD, hL⟩ := h
  refine ⟨ws, hP.kept (fun k q hk => hq q.1 (fun h0 => ?_)), hD, hL⟩
  have := (hL q.1 q.2).mpr ⟨k, hk⟩
  rw [cE_none.mpr h0] at this
  cases this
theorem Wd.at {G : GT} {A : Nat → Prop} {S : HS} {H : Heap} (h : Wd G A S H) {a : Nat} {e : va_E} (ha : cE G S a = some e) : va_at G.1 vwCl (a, e) H := by
  obtain ⟨ws, hP, hD, hL⟩ := h
  obtain ⟨j, hj⟩ := (hL a e).mp ha
  exact hP j _ hj
theorem cE_obj {G : GT} {S : HS} {a kd : Nat} (h : hK S a = kd) (h0 : 0 < kd) (h7 : kd < 7) : cE G S a = some (.inr (kd + 1, (fds kd).map (fv S a))) := by
  unfold cE
  rw [h, if_neg (by omega), if_pos h7]
theorem cE_arr {G : GT} {S : HS} {a kd : Nat} (h : hK S a = kd) (h7 : 10 ≤ kd) : cE G S a = some (.inl (G.2.1 kd, cA S a)) := by
  unfold cE
  rw [h, if_neg (by omega), if_neg (by omega)]
theorem fds_nd : ∀ kd, kd < 7 → ∀ i, i < 30 → ∀ j, j < 30 → ∀ p, (fds kd)[i]? = some p → ∀ q, (fds kd)[j]? = some q → p.2 = q.2 → i = j := by
  intro kd hkd i hi j hj p hp q hq h
  have hnd : ((fds kd).map Prod.snd).Nodup := by
    have hc : kd = 0 ∨ kd = 1 ∨ kd = 2 ∨ kd = 3 ∨ kd = 4 ∨ kd = 5 ∨ kd = 6 := by omega
    rcases hc with rfl | rfl | rfl | rfl | rfl | rfl | rfl <;> decide
  have h1 : ((fds kd).map Prod.snd)[i]? = some p.2 := by rw [List.getElem?_map, hp]; rfl
  have h2 : ((fds kd).map Prod.snd)[j]? = some q.2 := by rw [List.getElem?_map, hq]; rfl
  rw [← h] at h2
  obtain ⟨li, ei⟩ := List.getElem?_eq_some_iff.mp h1
  obtain ⟨lj, ej⟩ := List.getElem?_eq_some_iff.mp h2
  have hpw := List.pairwise_iff_getElem.mp hnd
  rcases Nat.lt_trichotomy i j with h9 | h9 | h9
  · exact absurd (ei.trans ej.symm) (hpw i j li lj h9)
  · exact h9
  · exact absurd (ej.trans ei.symm) (hpw j i lj li h9)
theorem fds_len (kd : Nat) : (fds kd).length ≤ 22 := by
  unfold fds
  split <;> decide
theorem cE_sI {G : GT} {S : HS} {a kd j f : Nat} {v : Int32} (h : hK S a = kd) (h0 : 0 < kd) (h7 : kd < 7) (hj : (fds kd)[j]? = some (0, f)) (b : Nat) :
    cE G (sI S f a v) b = if b = a then some (.inr (kd + 1, ((fds kd).map (fv S a)).set j (.int v))) else cE G S b := by
  have hKs : ∀ q, hK (sI S f a v) q = hK S q := fun _ => rfl
  by_cases hb : b = a
  · subst hb
    rw [if_pos rfl, cE_obj ((hKs b).trans h) h0 h7]
    congr 3
    apply List.ext_getElem?
    intro i
    have hjl : j < (fds kd).length := (List.getElem?_eq_some_iff.mp hj).1
    by_cases hij : j = i
    · subst hij
      rw [List.getElem?_set_self (by simpa using hjl), List.getElem?_map, hj]
      simp [fv, sI, hI, u2]
    · rw [List.getElem?_set_ne hij, List.getElem?_map, List.getElem?_map]
      cases hi : (fds kd)[i]? with
      | none => rfl
      | some q =>
        have hil : i < (fds kd).length := (List.getElem?_eq_some_iff.mp hi).1
        have hne : q.2 ≠ f := fun e => hij (fds_nd kd h7 j (by have := fds_len kd; omega) i (by have := fds_len kd; omega) _ hj _ hi e.symm)
        simp [fv, sI, hI, hI, hJ, hR, u2, hne]
  · rw [if_neg hb]
    have hf : ∀ q, fv (sI S f a v) b q = fv S b q := fun q => by simp [fv, sI, hI, hJ, hR, u2, hb]
    unfold cE
    rw [hKs b]
    by_cases z0 : hK S b = 0
    · rw [if_pos z0, if_pos z0]
    · rw [if_neg z0, if_neg z0]
      by_cases z7 : hK S b < 7
      · rw [if_pos z7, if_pos z7]
        congr 3
        exact List.map_congr_left (fun q _ => hf q)
      · rw [if_neg z7, if_neg z7]
        rfl
theorem cE_sJ {G : GT} {S : HS} {a kd j f : Nat} {v : Int64} (h : hK S a = kd) (h0 : 0 < kd) (h7 : kd < 7) (hj : (fds kd)[j]? = some (1, f)) (b : Nat) :
    cE G (sJ S f a v) b = if b = a then some (.inr (kd + 1, ((fds kd).map (fv S a)).set j (.long v))) else cE G S b := by
  have hKs : ∀ q, hK (sJ S f a v) q = hK S q := fun _ => rfl
  by_cases hb : b = a
  · subst hb
    rw [if_pos rfl, cE_obj ((hKs b).trans h) h0 h7]
    congr 3
    apply List.ext_getElem?
    intro i
    have hjl : j < (fds kd).length := (List.getElem?_eq_some_iff.mp hj).1
    by_cases hij : j = i
    · subst hij
      rw [List.getElem?_set_self (by simpa using hjl), List.getElem?_map, hj]
      simp [fv, sJ, hJ, u2]
    · rw [List.getElem?_set_ne hij, List.getElem?_map, List.getElem?_map]
      cases hi : (fds kd)[i]? with
      | none => rfl
      | some q =>
        have hil : i < (fds kd).length := (List.getElem?_eq_some_iff.mp hi).1
        have hne : q.2 ≠ f := fun e => hij (fds_nd kd h7 j (by have := fds_len kd; omega) i (by have := fds_len kd; omega) _ hj _ hi e.symm)
        simp [fv, sJ, hJ, hI, hJ, hR, u2, hne]
  · rw [if_neg hb]
    have hf : ∀ q, fv (sJ S f a v) b q = fv S b q := fun q => by simp [fv, sJ, hI, hJ, hR, u2, hb]
    unfold cE
    rw [hKs b]
    by_cases z0 : hK S b = 0
    · rw [if_pos z0, if_pos z0]
    · rw [if_neg z0, if_neg z0]
      by_cases z7 : hK S b < 7
      · rw [if_pos z7, if_pos z7]
        congr 3
        exact List.map_congr_left (fun q _ => hf q)
      · rw [if_neg z7, if_neg z7]
        rfl
theorem cE_sR {G : GT} {S : HS} {a kd j f : Nat} {v : Option Nat} (h : hK S a = kd) (h0 : 0 < kd) (h7 : kd < 7) (hj : (fds kd)[j]? = some (2, f)) (b : Nat) :
    cE G (sR S f a v) b = if b = a then some (.inr (kd + 1, ((fds kd).map (fv S a)).set j (va_rf v))) else cE G S b := by
  have hKs : ∀ q, hK (sR S f a v) q = hK S q := fun _ => rfl
  by_cases hb : b = a
  · subst hb
    rw [if_pos rfl, cE_obj ((hKs b).trans h) h0 h7]
    congr 3
    apply List.ext_getElem?
    intro i
    have hjl : j < (fds kd).length := (List.getElem?_eq_some_iff.mp hj).1
    by_cases hij : j = i
    · subst hij
      rw [List.getElem?_set_self (by simpa using hjl), List.getElem?_map, hj]
      simp [fv, sR, hR, u2]
    · rw [List.getElem?_set_ne hij, List.getElem?_map, List.getElem?_map]
      cases hi : (fds kd)[i]? with
      | none => rfl
      | some q =>
        have hil : i < (fds kd).length := (List.getElem?_eq_some_iff.mp hi).1
        have hne : q.2 ≠ f := fun e => hij (fds_nd kd h7 j (by have := fds_len kd; omega) i (by have := fds_len kd; omega) _ hj _ hi e.symm)
        simp [fv, sR, hR, hI, hJ, hR, u2, hne]
  · rw [if_neg hb]
    have hf : ∀ q, fv (sR S f a v) b q = fv S b q := fun q => by simp [fv, sR, hI, hJ, hR, u2, hb]
    unfold cE
    rw [hKs b]
    by_cases z0 : hK S b = 0
    · rw [if_pos z0, if_pos z0]
    · rw [if_neg z0, if_neg z0]
      by_cases z7 : hK S b < 7
      · rw [if_pos z7, if_pos z7]
        congr 3
        exact List.map_congr_left (fun q _ => hf q)
      · rw [if_neg z7, if_neg z7]
        rfl
theorem cE_tI {G : GT} {S : HS} {a j : Nat} {v : Int32} (h : 10 ≤ hK S a ∧ hK S a < 12) (b : Nat) : cE G (tI S a j v) b = if b = a then some (.inl (G.2.1 (hK S a), cA (tI S a j v) a)) else cE G S b := by
  have hKs : ∀ q, hK (tI S a j v) q = hK S q := fun _ => rfl
  by_cases hb : b = a
  · subst hb
    rw [if_pos rfl]
    exact cE_arr (hKs b) (by omega)
  · rw [if_neg hb]
    have hf : ∀ q, fv (tI S a j v) b q = fv S b q := fun q => rfl
    have hc : cA (tI S a j v) b = cA S b := by
      have e1 : hN (tI S a j v) b = hN S b := rfl
      have e2 : aI (tI S a j v) b = aI S b := by funext z; simp [aI, tI, u2, hb]
      have e3 : aJ (tI S a j v) b = aJ S b := by funext z; simp [aJ, tI, u2, hb]
      have e4 : aR (tI S a j v) b = aR S b := by funext z; simp [aR, tI, u2, hb]
      have e5 : aD (tI S a j v) b = aD S b := by funext z; simp [aD, tI, u2, hb]
      unfold cA
      rw [hKs, e1, e2, e3, e4, e5]
    unfold cE
    rw [hKs b, hc]
    rfl
theorem cE_tJ {G : GT} {S : HS} {a j : Nat} {v : Int64} (h : hK S a = 12) (b : Nat) : cE G (tJ S a j v) b = if b = a then some (.inl (G.2.1 (hK S a), cA (tJ S a j v) a)) else cE G S b := by
  have hKs : ∀ q, hK (tJ S a j v) q = hK S q := fun _ => rfl
  by_cases hb : b = a
  · subst hb
    rw [if_pos rfl]
    exact cE_arr (hKs b) (by omega)
  · rw [if_neg hb]
    have hf : ∀ q, fv (tJ S a j v) b q = fv S b q := fun q => rfl
    have hc : cA (tJ S a j v) b = cA S b := by
      have e1 : hN (tJ S a j v) b = hN S b := rfl
      have e2 : aI (tJ S a j v) b = aI S b := by funext z; simp [aI, tJ, u2, hb]
      have e3 : aJ (tJ S a j v) b = aJ S b := by funext z; simp [aJ, tJ, u2, hb]
      have e4 : aR (tJ S a j v) b = aR S b := by funext z; simp [aR, tJ, u2, hb]
      have e5 : aD (tJ S a j v) b = aD S b := by funext z; simp [aD, tJ, u2, hb]
      unfold cA
      rw [hKs, e1, e2, e3, e4, e5]
    unfold cE
    rw [hKs b, hc]
    rfl
theorem cE_tR {G : GT} {S : HS} {a j : Nat} {v : Option Nat} (h : 12 < hK S a ∧ hK S a < 18) (b : Nat) : cE G (tR S a j v) b = if b = a then some (.inl (G.2.1 (hK S a), cA (tR S a j v) a)) else cE G S b := by
  have hKs : ∀ q, hK (tR S a j v) q = hK S q := fun _ => rfl
  by_cases hb : b = a
  · subst hb
    rw [if_pos rfl]
    exact cE_arr (hKs b) (by omega)
  · rw [if_neg hb]
    have hf : ∀ q, fv (tR S a j v) b q = fv S b q := fun q => rfl
    have hc : cA (tR S a j v) b = cA S b := by
      have e1 : hN (tR S a j v) b = hN S b := rfl
      have e2 : aI (tR S a j v) b = aI S b := by funext z; simp [aI, tR, u2, hb]
      have e3 : aJ (tR S a j v) b = aJ S b := by funext z; simp [aJ, tR, u2, hb]
      have e4 : aR (tR S a j v) b = aR S b := by funext z; simp [aR, tR, u2, hb]
      have e5 : aD (tR S a j v) b = aD S b := by funext z; simp [aD, tR, u2, hb]
      unfold cA
      rw [hKs, e1, e2, e3, e4, e5]
    unfold cE
    rw [hKs b, hc]
    rfl
theorem cE_tD {G : GT} {S : HS} {a j : Nat} {v : UInt64} (h : hK S a = 18) (b : Nat) : cE G (tD S a j v) b = if b = a then some (.inl (G.2.1 (hK S a), cA (tD S a j v) a)) else cE G S b := by
  have hKs : ∀ q, hK (tD S a j v) q = hK S q := fun _ => rfl
  by_cases hb : b = a
  · subst hb
    rw [if_pos rfl]
    exact cE_arr (hKs b) (by omega)
  · rw [if_neg hb]
    have hf : ∀ q, fv (tD S a j v) b q = fv S b q := fun q => rfl
    have hc : cA (tD S a j v) b = cA S b := by
      have e1 : hN (tD S a j v) b = hN S b := rfl
      have e2 : aI (tD S a j v) b = aI S b := by funext z; simp [aI, tD, u2, hb]
      have e3 : aJ (tD S a j v) b = aJ S b := by funext z; simp [aJ, tD, u2, hb]
      have e4 : aR (tD S a j v) b = aR S b := by funext z; simp [aR, tD, u2, hb]
      have e5 : aD (tD S a j v) b = aD S b := by funext z; simp [aD, tD, u2, hb]
      unfold cA
      rw [hKs, e1, e2, e3, e4, e5]
    unfold cE
    rw [hKs b, hc]
    rfl
theorem cE_rI {G : GT} {S : HS} {a : Nat} {r : Nat → Int32} (h : 10 ≤ hK S a ∧ hK S a < 12) (b : Nat) : cE G (rI S a r) b = if b = a then some (.inl (G.2.1 (hK S a), hN S a, .inl r)) else cE G S b := by
  have hKs : ∀ q, hK (rI S a r) q = hK S q := fun _ => rfl
  by_cases hb : b = a
  · subst hb
    rw [if_pos rfl, cE_arr (hKs b) (by omega)]
    have : cA (rI S b r) b = (hN S b, .inl r) := by
      unfold cA
      rw [hKs b, if_pos h.2]
      have e : aI (rI S b r) b = r := by funext z; simp [aI, rI, ur]
      rw [e]
      rfl
    rw [this]
  · rw [if_neg hb]
    have hc : cA (rI S a r) b = cA S b := by
      have e : aI (rI S a r) b = aI S b := by funext z; simp [aI, rI, ur, hb]
      unfold cA
      rw [hKs b, e]
      rfl
    unfold cE
    rw [hKs b, hc]
    rfl
theorem cE_nO {G : GT} {S : HS} {a kd : Nat} (h0 : 0 < kd) (h7 : kd < 7) (b : Nat) : cE G (nO S a kd) b = if b = a then some (.inr (kd + 1, (fds kd).map (fun q => if q.1 = 0 then .int 0 else if q.1 = 1 then .long 0 else .null))) else cE G S b := by
  by_cases hb : b = a
  · subst hb
    have hKs : hK (nO S b kd) b = kd := by simp [hK, nO, va_up]
    rw [if_pos rfl, cE_obj hKs h0 h7]
    congr 3
    apply List.map_congr_left
    intro q _
    simp [fv, nO, hI, hJ, hR, uz, va_rf]
  · have hKs : hK (nO S a kd) b = hK S b := by simp [hK, nO, va_up, hb]
    have hf : ∀ q, fv (nO S a kd) b q = fv S b q := fun q => by simp [fv, nO, hI, hJ, hR, uz, hb]
    have hc : cA (nO S a kd) b = cA S b := by unfold cA; rw [hKs]; rfl
    rw [if_neg hb]
    unfold cE
    rw [hKs, hc]
    by_cases z0 : hK S b = 0
    · rw [if_pos z0, if_pos z0]
    · rw [if_neg z0, if_neg z0]
      by_cases z7 : hK S b < 7
      · rw [if_pos z7, if_pos z7]
        congr 3
        exact List.map_congr_left (fun q _ => hf q)
      · rw [if_neg z7, if_neg z7]
def cA0 (kd n : Nat) : vp_A := (n, if kd < 12 then .inl (fun _ => 0) else if kd = 12 then .inr (.inl (fun _ => 0)) else if kd = 18 then .inr (.inr (.inr (.inl (fun _ => 0)))) else .inr (.inr (.inr (.inr (fun _ => none)))))
theorem cE_nA {G : GT} {S : HS} {a kd n : Nat} (h0 : 10 ≤ kd) (b : Nat) : cE G (nA S a kd n) b = if b = a then some (.inl (G.2.1 kd, cA0 kd n)) else cE G S b := by
  by_cases hb : b = a
  · subst hb
    have hKs : hK (nA S b kd n) b = kd := by simp [hK, nA, va_up]
    rw [if_pos rfl, cE_arr hKs h0]
    congr 3
    unfold cA cA0
    rw [hKs]
    have e1 : hN (nA S b kd n) b = n := by simp [hN, nA, va_up]
    have e2 : aI (nA S b kd n) b = fun _ => 0 := by funext z; simp [aI, nA, ur]
    have e3 : aJ (nA S b kd n) b = fun _ => 0 := by funext z; simp [aJ, nA, ur]
    have e4 : aR (nA S b kd n) b = fun _ => none := by funext z; simp [aR, nA, ur]
    have e5 : aD (nA S b kd n) b = fun _ => 0 := by funext z; simp [aD, nA, ur]
    rw [e1, e2, e3, e4, e5]
  · have hKs : hK (nA S a kd n) b = hK S b := by simp [hK, nA, va_up, hb]
    have hf : ∀ q, fv (nA S a kd n) b q = fv S b q := fun q => rfl
    have hc : cA (nA S a kd n) b = cA S b := by
      have e1 : hN (nA S a kd n) b = hN S b := by simp [hN, nA, va_up, hb]
      have e2 : aI (nA S a kd n) b = aI S b := by funext z; simp [aI, nA, ur, hb]
      have e3 : aJ (nA S a kd n) b = aJ S b := by funext z; simp [aJ, nA, ur, hb]
      have e4 : aR (nA S a kd n) b = aR S b := by funext z; simp [aR, nA, ur, hb]
      have e5 : aD (nA S a kd n) b = aD S b := by funext z; simp [aD, nA, ur, hb]
      unfold cA
      rw [hKs, e1, e2, e3, e4, e5]
    rw [if_neg hb]
    unfold cE
    rw [hKs, hc]
    rfl
end
section
/-- what stands throughout a method's walk -/
def Cx (p : Program) (l : Launch) (e : Env) (R : Room) (s : State) (m : MethodId) (args : Array Value) (below : List Frame) (meth : Method) (c : Code) (cc : ByteArray) (nL : Nat) (own : String) (G : GT) (A : Nat → Prop) : Prop :=
  p.tables.exec = Jvm.exec ∧ c.code = cc ∧ c.maxLocals = nL ∧ s.vm.findClass own = some m.cls ∧ (∀ w ∈ wsG, w.before args s = true) ∧ meth.locks = false ∧ gK G s ∧ gE G A s s.heap ∧ (∀ q : Nat, s.heap.size ≤ q → A q)
/-- the walk: from every heap that the state S tells, with the locals lv and the stack st, the machine at pc comes to Q -/
def V (p : Program) (l : Launch) (e : Env) (R : Room) (s : State) (m : MethodId) (args : Array Value) (below : List Frame) (meth : Method) (c : Code) (nL : Nat) (G : GT) (A : Nat → Prop) (S : HS) (k n : Nat) (Q : State → Prop) (pc : Nat) (lv : List (Nat × Value)) (st : List Value) : Prop :=
  ∀ (H : Heap) (locs : List Loc) (ls : Array Slot), Wd G A S H → va_S A s.heap H locs → lv_has ls nL lv → W p l e R s m args below meth c H locs k n Q (F0 m pc ls st)
/-- the walk with an object of class E thrown at pc -/
def VX (p : Program) (l : Launch) (e : Env) (R : Room) (s : State) (m : MethodId) (args : Array Value) (below : List Frame) (meth : Method) (c : Code) (nL : Nat) (G : GT) (A : Nat → Prop) (S : HS) (k n : Nat) (Q : State → Prop) (pc : Nat) (lv : List (Nat × Value)) (st : List Value) (E : String) : Prop :=
  ∀ (H : Heap) (locs : List Loc) (ls : Array Slot) (q : Nat) (ce : Cell), Wd G A S H → va_S A s.heap H locs → lv_has ls nL lv → H[q]? = some ce → ce.vm = .none → s.vm.findClass E = some ce.cls → vx_W p l e R s m args below meth c H locs k n Q (F0 m pc ls st) q
section WALK
variable {p : Program} {l : Launch} {e : Env} {R : Room} {s : State} {m : MethodId} {args : Array Value} {below : List Frame} {meth : Method} {c : Code} {cc : ByteArray} {nL : Nat} {own : String} {G : GT} {A : Nat → Prop} {S : HS} {k n : Nat} {Q : State → Prop} {pc : Nat} {lv lv' : List (Nat × Value)} {st : List Value}
theorem V.eq {S' : HS} {lv2 : List (Nat × Value)} {st' : List Value} (h : V p l e R s m args below meth c nL G A (S') (k) (n) Q (pc) (lv2) (st')) (hS : S' = S) (hl : lv2 = lv) (hs : st' = st) : V p l e R s m args below meth c nL G A (S) (k) (n) Q (pc) (lv) (st) := by
  subst hS; subst hl; subst hs; exact h
theorem V.widen {k' n' : Nat} (h1 : k ≤ k') (h2 : n ≤ n') (h : V p l e R s m args below meth c nL G A (S) (k') (n') Q (pc) (lv) (st)) : V p l e R s m args below meth c nL G A (S) (k) (n) Q (pc) (lv) (st) := fun H locs ls hW hS hv => W.widen h1 h2 (h H locs ls hW hS hv)
theorem V.sub (ks : List Nat) (hl : lv_pick lv ks = lv') (h : V p l e R s m args below meth c nL G A (S) (k) (n) Q (pc) (lv') (st)) : V p l e R s m args below meth c nL G A (S) (k) (n) Q (pc) (lv) (st) := fun H locs ls hW hS hv => h H locs ls hW hS (lv_sub hv ks hl)
theorem v_iadd (C : Cx p l e R s m args below meth c cc nL own G A) {x y : Int32} (hd : decode cc pc = .ok (.iadd, 1)) (kk : V p l e R s m args below meth c nL G A (S) (k) (n) Q (pc + 1) (lv) (.int (x + y) :: st)) : V p l e R s m args below meth c nL G A (S) (k) (n) Q (pc) (lv) (.int y :: .int x :: st) := fun H locs ls hW hS hv => lv_iadd C.1 C.2.1 hd (kk H locs ls hW hS hv)
theorem v_isub (C : Cx p l e R s m args below meth c cc nL own G A) {x y : Int32} (hd : decode cc pc = .ok (.isub, 1)) (kk : V p l e R s m args below meth c nL G A (S) (k) (n) Q (pc + 1) (lv) (.int (x - y) :: st)) : V p l e R s m args below meth c nL G A (S) (k) (n) Q (pc) (lv) (.int y :: .int x :: st) := fun H locs ls hW hS hv => lv_isub C.1 C.2.1 hd (kk H locs ls hW hS hv)
theorem v_imul (C : Cx p l e R s m args below meth c cc nL own G A) {x y : Int32} (hd : decode cc pc = .ok (.imul, 1)) (kk : V p l e R s m args below meth c nL G A (S) (k) (n) Q (pc + 1) (lv) (.int (x * y) :: st)) : V p l e R s m args below meth c nL G A (S) (k) (n) Q (pc) (lv) (.int y :: .int x :: st) := fun H locs ls hW hS hv => lv_imul C.1 C.2.1 hd (kk H locs ls hW hS hv)
theorem v_iand (C : Cx p l e R s m args below meth c cc nL own G A) {x y : Int32} (hd : decode cc pc = .ok (.iand, 1)) (kk : V p l e R s m args below meth c nL G A (S) (k) (n) Q (pc + 1) (lv) (.int (x &&& y) :: st)) : V p l e R s m args below meth c nL G A (S) (k) (n) Q (pc) (lv) (.int y :: .int x :: st) := fun H locs ls hW hS hv => lv_iand C.1 C.2.1 hd (kk H locs ls hW hS hv)
theorem v_ior (C : Cx p l e R s m args below meth c cc nL own G A) {x y : Int32} (hd : decode cc pc = .ok (.ior, 1)) (kk : V p l e R s m args below meth c nL G A (S) (k) (n) Q (pc + 1) (lv) (.int (x ||| y) :: st)) : V p l e R s m args below meth c nL G A (S) (k) (n) Q (pc) (lv) (.int y :: .int x :: st) := fun H locs ls hW hS hv => lv_ior C.1 C.2.1 hd (kk H locs ls hW hS hv)
theorem v_ishl (C : Cx p l e R s m args below meth c cc nL own G A) {x y : Int32} (hd : decode cc pc = .ok (.ishl, 1)) (kk : V p l e R s m args below meth c nL G A (S) (k) (n) Q (pc + 1) (lv) (.int (x <<< (y &&& 31)) :: st)) : V p l e R s m args below meth c nL G A (S) (k) (n) Q (pc) (lv) (.int y :: .int x :: st) := fun H locs ls hW hS hv => lv_ishl C.1 C.2.1 hd (kk H locs ls hW hS hv)
theorem v_ishr (C : Cx p l e R s m args below meth c cc nL own G A) {x y : Int32} (hd : decode cc pc = .ok (.ishr, 1)) (kk : V p l e R s m args below meth c nL G A (S) (k) (n) Q (pc + 1) (lv) (.int (x >>> (y &&& 31)) :: st)) : V p l e R s m args below meth c nL G A (S) (k) (n) Q (pc) (lv) (.int y :: .int x :: st) := fun H locs ls hW hS hv => lv_ishr C.1 C.2.1 hd (kk H locs ls hW hS hv)
theorem v_idiv (C : Cx p l e R s m args below meth c cc nL own G A) {x y : Int32} (hne : ¬ y = 0) (hd : decode cc pc = .ok (.idiv, 1)) (kk : V p l e R s m args below meth c nL G A (S) (k) (n) Q (pc + 1) (lv) (.int (x / y) :: st)) : V p l e R s m args below meth c nL G A (S) (k) (n) Q (pc) (lv) (.int y :: .int x :: st) := fun H locs ls hW hS hv => lv_idiv C.1 C.2.1 hd hne (kk H locs ls hW hS hv)
theorem v_ineg (C : Cx p l e R s m args below meth c cc nL own G A) {x : Int32} (hd : decode cc pc = .ok (.ineg, 1)) (kk : V p l e R s m args below meth c nL G A (S) (k) (n) Q (pc + 1) (lv) (.int (-x) :: st)) : V p l e R s m args below meth c nL G A (S) (k) (n) Q (pc) (lv) (.int x :: st) := fun H locs ls hW hS hv => lv_ineg C.1 C.2.1 hd (kk H locs ls hW hS hv)
theorem v_ladd (C : Cx p l e R s m args below meth c cc nL own G A) {x y : Int64} (hd : decode cc pc = .ok (.ladd, 1)) (kk : V p l e R s m args below meth c nL G A (S) (k) (n) Q (pc + 1) (lv) (.long (x + y) :: st)) : V p l e R s m args below meth c nL G A (S) (k) (n) Q (pc) (lv) (.long y :: .long x :: st) := fun H locs ls hW hS hv => lv_ladd C.1 C.2.1 hd (kk H locs ls hW hS hv)
theorem v_lsub (C : Cx p l e R s m args below meth c cc nL own G A) {x y : Int64} (hd : decode cc pc = .ok (.lsub, 1)) (kk : V p l e R s m args below meth c nL G A (S) (k) (n) Q (pc + 1) (lv) (.long (x - y) :: st)) : V p l e R s m args below meth c nL G A (S) (k) (n) Q (pc) (lv) (.long y :: .long x :: st) := fun H locs ls hW hS hv => lv_lsub C.1 C.2.1 hd (kk H locs ls hW hS hv)
theorem v_lmul (C : Cx p l e R s m args below meth c cc nL own G A) {x y : Int64} (hd : decode cc pc = .ok (.lmul, 1)) (kk : V p l e R s m args below meth c nL G A (S) (k) (n) Q (pc + 1) (lv) (.long (x * y) :: st)) : V p l e R s m args below meth c nL G A (S) (k) (n) Q (pc) (lv) (.long y :: .long x :: st) := fun H locs ls hW hS hv => lv_lmul C.1 C.2.1 hd (kk H locs ls hW hS hv)
theorem v_ldiv (C : Cx p l e R s m args below meth c cc nL own G A) {x y : Int64} (hne : ¬ y = 0) (hd : decode cc pc = .ok (.ldiv, 1)) (kk : V p l e R s m args below meth c nL G A (S) (k) (n) Q (pc + 1) (lv) (.long (x / y) :: st)) : V p l e R s m args below meth c nL G A (S) (k) (n) Q (pc) (lv) (.long y :: .long x :: st) := fun H locs ls hW hS hv => lv_ldiv C.1 C.2.1 hd hne (kk H locs ls hW hS hv)
theorem v_lcmp (C : Cx p l e R s m args below meth c cc nL own G A) {x y : Int64} (hd : decode cc pc = .ok (.lcmp, 1)) (kk : V p l e R s m args below meth c nL G A (S) (k) (n) Q (pc + 1) (lv) (.int (lg_cmp x y) :: st)) : V p l e R s m args below meth c nL G A (S) (k) (n) Q (pc) (lv) (.long y :: .long x :: st) := fun H locs ls hW hS hv => W.lcmp C.1 C.2.1 hd (kk H locs ls hW hS hv)
theorem v_i2l (C : Cx p l e R s m args below meth c cc nL own G A) {x : Int32} (hd : decode cc pc = .ok (.i2l, 1)) (kk : V p l e R s m args below meth c nL G A (S) (k) (n) Q (pc + 1) (lv) (.long x.toInt64 :: st)) : V p l e R s m args below meth c nL G A (S) (k) (n) Q (pc) (lv) (.int x :: st) := fun H locs ls hW hS hv => lv_i2l C.1 C.2.1 hd rfl (kk H locs ls hW hS hv)
theorem v_l2i (C : Cx p l e R s m args below meth c cc nL own G A) {x : Int64} (hd : decode cc pc = .ok (.l2i, 1)) (kk : V p l e R s m args below meth c nL G A (S) (k) (n) Q (pc + 1) (lv) (.int x.toInt32 :: st)) : V p l e R s m args below meth c nL G A (S) (k) (n) Q (pc) (lv) (.long x :: st) := fun H locs ls hW hS hv => lv_l2i C.1 C.2.1 hd rfl (kk H locs ls hW hS hv)
theorem v_i2c (C : Cx p l e R s m args below meth c cc nL own G A) {x : Int32} (hd : decode cc pc = .ok (.i2c, 1)) (kk : V p l e R s m args below meth c nL G A (S) (k) (n) Q (pc + 1) (lv) (.int (x.toUInt32 % 65536).toInt32 :: st)) : V p l e R s m args below meth c nL G A (S) (k) (n) Q (pc) (lv) (.int x :: st) := fun H locs ls hW hS hv => lv_i2c C.1 C.2.1 hd rfl (kk H locs ls hW hS hv)
theorem v_i2f (C : Cx p l e R s m args below meth c cc nL own G A) {x : Int32} (hd : decode cc pc = .ok (.i2f, 1)) (kk : V p l e R s m args below meth c nL G A (S) (k) (n) Q (pc + 1) (lv) (.float (FP.i2f x) :: st)) : V p l e R s m args below meth c nL G A (S) (k) (n) Q (pc) (lv) (.int x :: st) := fun H locs ls hW hS hv => lv_i2f C.1 C.2.1 hd (kk H locs ls hW hS hv)
theorem v_i2d (C : Cx p l e R s m args below meth c cc nL own G A) {x : Int32} (hd : decode cc pc = .ok (.i2d, 1)) (kk : V p l e R s m args below meth c nL G A (S) (k) (n) Q (pc + 1) (lv) (.double (FP.i2d x) :: st)) : V p l e R s m args below meth c nL G A (S) (k) (n) Q (pc) (lv) (.int x :: st) := fun H locs ls hW hS hv => lv_i2d C.1 C.2.1 hd (kk H locs ls hW hS hv)
theorem v_dcmp (C : Cx p l e R s m args below meth c cc nL own G A) {x y : UInt64} {op : CmpOp} (hd : decode cc pc = .ok (.dcmp op, 1)) (kk : V p l e R s m args below meth c nL G A (S) (k) (n) Q (pc + 1) (lv) (.int (Op.cmpValue (FP.dcmp x y) op) :: st)) : V p l e R s m args below meth c nL G A (S) (k) (n) Q (pc) (lv) (.double y :: .double x :: st) := fun H locs ls hW hS hv => lv_dcmp C.1 C.2.1 hd (kk H locs ls hW hS hv)
theorem v_dup (C : Cx p l e R s m args below meth c cc nL own G A) {va : Value} (hva : va.category = 1) (hd : decode cc pc = .ok (.dup, 1)) (kk : V p l e R s m args below meth c nL G A (S) (k) (n) Q (pc + 1) (lv) (va :: va :: st)) : V p l e R s m args below meth c nL G A (S) (k) (n) Q (pc) (lv) (va :: st) := fun H locs ls hW hS hv => lv_dup C.1 C.2.1 hd hva (kk H locs ls hW hS hv)
theorem v_pop (C : Cx p l e R s m args below meth c cc nL own G A) {va : Value} (hva : va.category = 1) (hd : decode cc pc = .ok (.pop, 1)) (kk : V p l e R s m args below meth c nL G A (S) (k) (n) Q (pc + 1) (lv) (st)) : V p l e R s m args below meth c nL G A (S) (k) (n) Q (pc) (lv) (va :: st) := fun H locs ls hW hS hv => lv_pop C.1 C.2.1 hd hva (kk H locs ls hW hS hv)
theorem v_dup2 (C : Cx p l e R s m args below meth c cc nL own G A) {va vb : Value} (hva : va.category = 1) (hvb : vb.category = 1) (hd : decode cc pc = .ok (.dup2, 1)) (kk : V p l e R s m args below meth c nL G A (S) (k) (n) Q (pc + 1) (lv) (va :: vb :: va :: vb :: st)) : V p l e R s m args below meth c nL G A (S) (k) (n) Q (pc) (lv) (va :: vb :: st) := fun H locs ls hW hS hv => lv_dup2_11 C.1 C.2.1 hd hva hvb (kk H locs ls hW hS hv)
theorem v_null (C : Cx p l e R s m args below meth c cc nL own G A) (hd : decode cc pc = .ok (.aconst_null, 1)) (kk : V p l e R s m args below meth c nL G A (S) (k) (n) Q (pc + 1) (lv) (.null :: st)) : V p l e R s m args below meth c nL G A (S) (k) (n) Q (pc) (lv) (st) := fun H locs ls hW hS hv => lv_null C.1 C.2.1 hd (kk H locs ls hW hS hv)
theorem v_iconst (C : Cx p l e R s m args below meth c cc nL own G A) {z : Int} (x : Int32) (hx : Int32.ofInt z = x) (hd : decode cc pc = .ok (.iconst z, 1)) (kk : V p l e R s m args below meth c nL G A (S) (k) (n) Q (pc + 1) (lv) (.int x :: st)) : V p l e R s m args below meth c nL G A (S) (k) (n) Q (pc) (lv) (st) := fun H locs ls hW hS hv => lv_iconst C.1 C.2.1 hd hx (kk H locs ls hW hS hv)
theorem v_bipush (C : Cx p l e R s m args below meth c cc nL own G A) {z : Int} (x : Int32) (hx : (Int8.ofInt z).toInt32 = x) (hd : decode cc pc = .ok (.bipush z, 2)) (kk : V p l e R s m args below meth c nL G A (S) (k) (n) Q (pc + 2) (lv) (.int x :: st)) : V p l e R s m args below meth c nL G A (S) (k) (n) Q (pc) (lv) (st) := fun H locs ls hW hS hv => lv_bipush C.1 C.2.1 hd hx (kk H locs ls hW hS hv)
theorem v_sipush (C : Cx p l e R s m args below meth c cc nL own G A) {z : Int} (x : Int32) (hx : (Int16.ofInt z).toInt32 = x) (hd : decode cc pc = .ok (.sipush z, 3)) (kk : V p l e R s m args below meth c nL G A (S) (k) (n) Q (pc + 3) (lv) (.int x :: st)) : V p l e R s m args below meth c nL G A (S) (k) (n) Q (pc) (lv) (st) := fun H locs ls hW hS hv => lv_sipush C.1 C.2.1 hd hx (kk H locs ls hW hS hv)
theorem v_lconst (C : Cx p l e R s m args below meth c cc nL own G A) {z : Fin 2} (x : Int64) (hx : Int64.ofNat (z : Nat) = x) (hd : decode cc pc = .ok (.lconst z, 1)) (kk : V p l e R s m args below meth c nL G A (S) (k) (n) Q (pc + 1) (lv) (.long x :: st)) : V p l e R s m args below meth c nL G A (S) (k) (n) Q (pc) (lv) (st) := fun H locs ls hW hS hv => lv_lconst C.1 C.2.1 hd hx (kk H locs ls hW hS hv)
theorem v_ldc2 (C : Cx p l e R s m args below meth c cc nL own G A) {i : Nat} {x : Int64} (hw : Cond.constantLong own i x ∈ wsG) (hd : decode cc pc = .ok (.ldc2_w i, 3)) (kk : V p l e R s m args below meth c nL G A (S) (k) (n) Q (pc + 3) (lv) (.long x :: st)) : V p l e R s m args below meth c nL G A (S) (k) (n) Q (pc) (lv) (st) := fun H locs ls hW hS hv => lv_ldc2 C.1 C.2.1 C.2.2.2.1 (C.2.2.2.2.1 _ hw) hd (kk H locs ls hW hS hv)
theorem v_iload_n (C : Cx p l e R s m args below meth c cc nL own G A) {i : Fin 4} {j0 : Nat} {x : Int32} (j : Nat) (hl : lv[j]? = some (j0, .int x)) (hi : (i : Nat) = j0) (hd : decode cc pc = .ok (.iload_n i, 1)) (kk : V p l e R s m args below meth c nL G A (S) (k) (n) Q (pc + 1) (lv) (.int x :: st)) : V p l e R s m args below meth c nL G A (S) (k) (n) Q (pc) (lv) (st) := fun H locs ls hW hS hv => lv_iload_n C.1 C.2.1 hd hi (lv_at hv j hl) (kk H locs ls hW hS hv)
theorem v_iload (C : Cx p l e R s m args below meth c cc nL own G A) {i : Nat} {x : Int32} (j : Nat) (hl : lv[j]? = some (i, .int x)) (hd : decode cc pc = .ok (.iload i, 2)) (kk : V p l e R s m args below meth c nL G A (S) (k) (n) Q (pc + 2) (lv) (.int x :: st)) : V p l e R s m args below meth c nL G A (S) (k) (n) Q (pc) (lv) (st) := fun H locs ls hW hS hv => lv_iload C.1 C.2.1 hd (lv_at hv j hl) (kk H locs ls hW hS hv)
theorem v_aload_n (C : Cx p l e R s m args below meth c cc nL own G A) {i : Fin 4} {j0 : Nat} {x : Nat} (j : Nat) (hl : lv[j]? = some (j0, .ref x)) (hi : (i : Nat) = j0) (hd : decode cc pc = .ok (.aload_n i, 1)) (kk : V p l e R s m args below meth c nL G A (S) (k) (n) Q (pc + 1) (lv) (.ref x :: st)) : V p l e R s m args below meth c nL G A (S) (k) (n) Q (pc) (lv) (st) := fun H locs ls hW hS hv => lv_aload_n C.1 C.2.1 hd hi (lv_at hv j hl) (kk H locs ls hW hS hv)
theorem v_aload (C : Cx p l e R s m args below meth c cc nL own G A) {i : Nat} {x : Nat} (j : Nat) (hl : lv[j]? = some (i, .ref x)) (hd : decode cc pc = .ok (.aload i, 2)) (kk : V p l e R s m args below meth c nL G A (S) (k) (n) Q (pc + 2) (lv) (.ref x :: st)) : V p l e R s m args below meth c nL G A (S) (k) (n) Q (pc) (lv) (st) := fun H locs ls hW hS hv => lv_aload C.1 C.2.1 hd (lv_at hv j hl) (kk H locs ls hW hS hv)
theorem v_lload_n (C : Cx p l e R s m args below meth c cc nL own G A) {i : Fin 4} {j0 : Nat} {x : Int64} (j : Nat) (hl : lv[j]? = some (j0, .long x)) (hi : (i : Nat) = j0) (hd : decode cc pc = .ok (.lload_n i, 1)) (kk : V p l e R s m args below meth c nL G A (S) (k) (n) Q (pc + 1) (lv) (.long x :: st)) : V p l e R s m args below meth c nL G A (S) (k) (n) Q (pc) (lv) (st) := fun H locs ls hW hS hv => lv_lload_n C.1 C.2.1 hd hi (lv_at hv j hl) (kk H locs ls hW hS hv)
theorem v_lload (C : Cx p l e R s m args below meth c cc nL own G A) {i : Nat} {x : Int64} (j : Nat) (hl : lv[j]? = some (i, .long x)) (hd : decode cc pc = .ok (.lload i, 2)) (kk : V p l e R s m args below meth c nL G A (S) (k) (n) Q (pc + 2) (lv) (.long x :: st)) : V p l e R s m args below meth c nL G A (S) (k) (n) Q (pc) (lv) (st) := fun H locs ls hW hS hv => lv_lload C.1 C.2.1 hd (lv_at hv j hl) (kk H locs ls hW hS hv)
theorem v_dload_n (C : Cx p l e R s m args below meth c cc nL own G A) {i : Fin 4} {j0 : Nat} {x : UInt64} (j : Nat) (hl : lv[j]? = some (j0, .double x)) (hi : (i : Nat) = j0) (hd : decode cc pc = .ok (.dload_n i, 1)) (kk : V p l e R s m args below meth c nL G A (S) (k) (n) Q (pc + 1) (lv) (.double x :: st)) : V p l e R s m args below meth c nL G A (S) (k) (n) Q (pc) (lv) (st) := fun H locs ls hW hS hv => lv_dload_n C.1 C.2.1 hd hi (lv_at hv j hl) (kk H locs ls hW hS hv)
theorem v_dload (C : Cx p l e R s m args below meth c cc nL own G A) {i : Nat} {x : UInt64} (j : Nat) (hl : lv[j]? = some (i, .double x)) (hd : decode cc pc = .ok (.dload i, 2)) (kk : V p l e R s m args below meth c nL G A (S) (k) (n) Q (pc + 2) (lv) (.double x :: st)) : V p l e R s m args below meth c nL G A (S) (k) (n) Q (pc) (lv) (st) := fun H locs ls hW hS hv => lv_dload C.1 C.2.1 hd (lv_at hv j hl) (kk H locs ls hW hS hv)
theorem v_fload_n (C : Cx p l e R s m args below meth c cc nL own G A) {i : Fin 4} {j0 : Nat} {x : UInt32} (j : Nat) (hl : lv[j]? = some (j0, .float x)) (hi : (i : Nat) = j0) (hd : decode cc pc = .ok (.fload_n i, 1)) (kk : V p l e R s m args below meth c nL G A (S) (k) (n) Q (pc + 1) (lv) (.float x :: st)) : V p l e R s m args below meth c nL G A (S) (k) (n) Q (pc) (lv) (st) := fun H locs ls hW hS hv => lv_fload_n C.1 C.2.1 hd hi (lv_at hv j hl) (kk H locs ls hW hS hv)
theorem v_fload (C : Cx p l e R s m args below meth c cc nL own G A) {i : Nat} {x : UInt32} (j : Nat) (hl : lv[j]? = some (i, .float x)) (hd : decode cc pc = .ok (.fload i, 2)) (kk : V p l e R s m args below meth c nL G A (S) (k) (n) Q (pc + 2) (lv) (.float x :: st)) : V p l e R s m args below meth c nL G A (S) (k) (n) Q (pc) (lv) (st) := fun H locs ls hW hS hv => lv_fload C.1 C.2.1 hd (lv_at hv j hl) (kk H locs ls hW hS hv)
theorem v_aload_nN (C : Cx p l e R s m args below meth c cc nL own G A) {i : Fin 4} {j0 : Nat} (j : Nat) (hl : lv[j]? = some (j0, .null)) (hi : (i : Nat) = j0) (hd : decode cc pc = .ok (.aload_n i, 1)) (kk : V p l e R s m args below meth c nL G A (S) (k) (n) Q (pc + 1) (lv) (.null :: st)) : V p l e R s m args below meth c nL G A (S) (k) (n) Q (pc) (lv) (st) := fun H locs ls hW hS hv => lv_aload_nN C.1 C.2.1 hd hi (lv_at hv j hl) (kk H locs ls hW hS hv)
theorem v_istore_n (C : Cx p l e R s m args below meth c cc nL own G A) {kf : Fin 4} {i : Nat} {x : Int32} (lv2 : List (Nat × Value)) (hn : i < nL) (hl : (i, Value.int x) :: lv.filter (fun q => !(q.1 == i) && !(q.1 + 1 == i && q.2.category == 2)) = lv2) (hi : (kf : Nat) = i) (hd : decode cc pc = .ok (.istore_n kf, 1)) (kk : V p l e R s m args below meth c nL G A (S) (k) (n) Q (pc + 1) (lv2) (st)) : V p l e R s m args below meth c nL G A (S) (k) (n) Q (pc) (lv) (.int x :: st) := fun H locs ls hW hS hv => lv_istore_n C.1 C.2.1 hd hi hv hn hl (fun ls hv => kk H locs ls hW hS hv)
theorem v_istore (C : Cx p l e R s m args below meth c cc nL own G A) {i : Nat} {x : Int32} (lv2 : List (Nat × Value)) (hn : i < nL) (hl : (i, Value.int x) :: lv.filter (fun q => !(q.1 == i) && !(q.1 + 1 == i && q.2.category == 2)) = lv2) (hd : decode cc pc = .ok (.istore i, 2)) (kk : V p l e R s m args below meth c nL G A (S) (k) (n) Q (pc + 2) (lv2) (st)) : V p l e R s m args below meth c nL G A (S) (k) (n) Q (pc) (lv) (.int x :: st) := fun H locs ls hW hS hv => lv_istore C.1 C.2.1 hd hv hn hl (fun ls hv => kk H locs ls hW hS hv)
theorem v_astore_n (C : Cx p l e R s m args below meth c cc nL own G A) {kf : Fin 4} {i : Nat} {x : Nat} (lv2 : List (Nat × Value)) (hn : i < nL) (hl : (i, Value.ref x) :: lv.filter (fun q => !(q.1 == i) && !(q.1 + 1 == i && q.2.category == 2)) = lv2) (hi : (kf : Nat) = i) (hd : decode cc pc = .ok (.astore_n kf, 1)) (kk : V p l e R s m args below meth c nL G A (S) (k) (n) Q (pc + 1) (lv2) (st)) : V p l e R s m args below meth c nL G A (S) (k) (n) Q (pc) (lv) (.ref x :: st) := fun H locs ls hW hS hv => lv_astore_n C.1 C.2.1 hd hi hv hn hl (fun ls hv => kk H locs ls hW hS hv)
theorem v_astore (C : Cx p l e R s m args below meth c cc nL own G A) {i : Nat} {x : Nat} (lv2 : List (Nat × Value)) (hn : i < nL) (hl : (i, Value.ref x) :: lv.filter (fun q => !(q.1 == i) && !(q.1 + 1 == i && q.2.category == 2)) = lv2) (hd : decode cc pc = .ok (.astore i, 2)) (kk : V p l e R s m args below meth c nL G A (S) (k) (n) Q (pc + 2) (lv2) (st)) : V p l e R s m args below meth c nL G A (S) (k) (n) Q (pc) (lv) (.ref x :: st) := fun H locs ls hW hS hv => lv_astore C.1 C.2.1 hd hv hn hl (fun ls hv => kk H locs ls hW hS hv)
theorem v_lstore_n (C : Cx p l e R s m args below meth c cc nL own G A) {kf : Fin 4} {i : Nat} {x : Int64} (lv2 : List (Nat × Value)) (hn : i + 1 < nL) (hl : (i, Value.long x) :: lv.filter (fun q => !(q.1 == i) && (!(q.1 == i + 1) && !(q.1 + 1 == i && q.2.category == 2))) = lv2) (hi : (kf : Nat) = i) (hd : decode cc pc = .ok (.lstore_n kf, 1)) (kk : V p l e R s m args below meth c nL G A (S) (k) (n) Q (pc + 1) (lv2) (st)) : V p l e R s m args below meth c nL G A (S) (k) (n) Q (pc) (lv) (.long x :: st) := fun H locs ls hW hS hv => lv_lstore_n C.1 C.2.1 hd hi hv hn hl (fun ls hv => kk H locs ls hW hS hv)
theorem v_lstore (C : Cx p l e R s m args below meth c cc nL own G A) {i : Nat} {x : Int64} (lv2 : List (Nat × Value)) (hn : i + 1 < nL) (hl : (i, Value.long x) :: lv.filter (fun q => !(q.1 == i) && (!(q.1 == i + 1) && !(q.1 + 1 == i && q.2.category == 2))) = lv2) (hd : decode cc pc = .ok (.lstore i, 2)) (kk : V p l e R s m args below meth c nL G A (S) (k) (n) Q (pc + 2) (lv2) (st)) : V p l e R s m args below meth c nL G A (S) (k) (n) Q (pc) (lv) (.long x :: st) := fun H locs ls hW hS hv => lv_lstore C.1 C.2.1 hd hv hn hl (fun ls hv => kk H locs ls hW hS hv)
theorem v_dstore_n (C : Cx p l e R s m args below meth c cc nL own G A) {kf : Fin 4} {i : Nat} {x : UInt64} (lv2 : List (Nat × Value)) (hn : i + 1 < nL) (hl : (i, Value.double x) :: lv.filter (fun q => !(q.1 == i) && (!(q.1 == i + 1) && !(q.1 + 1 == i && q.2.category == 2))) = lv2) (hi : (kf : Nat) = i) (hd : decode cc pc = .ok (.dstore_n kf, 1)) (kk : V p l e R s m args below meth c nL G A (S) (k) (n) Q (pc + 1) (lv2) (st)) : V p l e R s m args below meth c nL G A (S) (k) (n) Q (pc) (lv) (.double x :: st) := fun H locs ls hW hS hv => lv_dstore_n C.1 C.2.1 hd hi hv hn hl (fun ls hv => kk H locs ls hW hS hv)
theorem v_dstore (C : Cx p l e R s m args below meth c cc nL own G A) {i : Nat} {x : UInt64} (lv2 : List (Nat × Value)) (hn : i + 1 < nL) (hl : (i, Value.double x) :: lv.filter (fun q => !(q.1 == i) && (!(q.1 == i + 1) && !(q.1 + 1 == i && q.2.category == 2))) = lv2) (hd : decode cc pc = .ok (.dstore i, 2)) (kk : V p l e R s m args below meth c nL G A (S) (k) (n) Q (pc + 2) (lv2) (st)) : V p l e R s m args below meth c nL G A (S) (k) (n) Q (pc) (lv) (.double x :: st) := fun H locs ls hW hS hv => lv_dstore C.1 C.2.1 hd hv hn hl (fun ls hv => kk H locs ls hW hS hv)
theorem v_fstore_n (C : Cx p l e R s m args below meth c cc nL own G A) {kf : Fin 4} {i : Nat} {x : UInt32} (lv2 : List (Nat × Value)) (hn : i < nL) (hl : (i, Value.float x) :: lv.filter (fun q => !(q.1 == i) && !(q.1 + 1 == i && q.2.category == 2)) = lv2) (hi : (kf : Nat) = i) (hd : decode cc pc = .ok (.fstore_n kf, 1)) (kk : V p l e R s m args below meth c nL G A (S) (k) (n) Q (pc + 1) (lv2) (st)) : V p l e R s m args below meth c nL G A (S) (k) (n) Q (pc) (lv) (.float x :: st) := fun H locs ls hW hS hv => lv_fstore_n C.1 C.2.1 hd hi hv hn hl (fun ls hv => kk H locs ls hW hS hv)
theorem v_fstore (C : Cx p l e R s m args below meth c cc nL own G A) {i : Nat} {x : UInt32} (lv2 : List (Nat × Value)) (hn : i < nL) (hl : (i, Value.float x) :: lv.filter (fun q => !(q.1 == i) && !(q.1 + 1 == i && q.2.category == 2)) = lv2) (hd : decode cc pc = .ok (.fstore i, 2)) (kk : V p l e R s m args below meth c nL G A (S) (k) (n) Q (pc + 2) (lv2) (st)) : V p l e R s m args below meth c nL G A (S) (k) (n) Q (pc) (lv) (.float x :: st) := fun H locs ls hW hS hv => lv_fstore C.1 C.2.1 hd hv hn hl (fun ls hv => kk H locs ls hW hS hv)
theorem v_astore_nN (C : Cx p l e R s m args below meth c cc nL own G A) {kf : Fin 4} {i : Nat} (lv2 : List (Nat × Value)) (hn : i < nL) (hl : (i, Value.null) :: lv.filter (fun q => !(q.1 == i) && !(q.1 + 1 == i && q.2.category == 2)) = lv2) (hi : (kf : Nat) = i) (hd : decode cc pc = .ok (.astore_n kf, 1)) (kk : V p l e R s m args below meth c nL G A (S) (k) (n) Q (pc + 1) (lv2) (st)) : V p l e R s m args below meth c nL G A (S) (k) (n) Q (pc) (lv) (.null :: st) := fun H locs ls hW hS hv => lv_astore_nN C.1 C.2.1 hd hi hv hn hl (fun ls hv => kk H locs ls hW hS hv)
theorem v_iinc (C : Cx p l e R s m args below meth c cc nL own G A) {i : Nat} {z : Int} {x : Int32} (y : Int32) (j : Nat) (lv2 : List (Nat × Value)) (hj : lv[j]? = some (i, .int x)) (hy : x + Int32.ofInt z = y) (hn : i < nL) (hl : (i, Value.int y) :: lv.filter (fun q => !(q.1 == i) && !(q.1 + 1 == i && q.2.category == 2)) = lv2) (hd : decode cc pc = .ok (.iinc i z, 3)) (kk : V p l e R s m args below meth c nL G A (S) (k) (n) Q (pc + 3) (lv2) (st)) : V p l e R s m args below meth c nL G A (S) (k) (n) Q (pc) (lv) (st) := fun H locs ls hW hS hv => lv_iinc C.1 C.2.1 hd hv hj hy hn hl (fun ls hv => kk H locs ls hW hS hv)
theorem v_goto (C : Cx p l e R s m args below meth c cc nL own G A) {off : Int} (tgt : Nat) (ht : (pc : Int) + off = (tgt : Int)) (hd : decode cc pc = .ok (.goto off, 3)) (kk : V p l e R s m args below meth c nL G A (S) (k) (n) Q (tgt) (lv) (st)) : V p l e R s m args below meth c nL G A (S) (k) (n) Q (pc) (lv) (st) := fun H locs ls hW hS hv => lv_goto C.1 C.2.1 hd ht (kk H locs ls hW hS hv)
theorem v_if_eq (C : Cx p l e R s m args below meth c cc nL own G A) {x : Int32} {off : Int} (tgt : Nat) (ht : (pc : Int) + off = (tgt : Int)) (hd : decode cc pc = .ok (.ifCond .eq off, 3)) (kt : x = 0 → V p l e R s m args below meth c nL G A (S) (k) (n) Q (tgt) (lv) (st)) (kf : ¬ x = 0 → V p l e R s m args below meth c nL G A (S) (k) (n) Q (pc + 3) (lv) (st)) : V p l e R s m args below meth c nL G A (S) (k) (n) Q (pc) (lv) (.int x :: st) := fun H locs ls hW hS hv => lv_if_eq C.1 C.2.1 hd ht (fun h => kt h H locs ls hW hS hv) (fun h => kf h H locs ls hW hS hv)
theorem v_icmp_eq (C : Cx p l e R s m args below meth c cc nL own G A) {x y : Int32} {off : Int} (tgt : Nat) (ht : (pc : Int) + off = (tgt : Int)) (hd : decode cc pc = .ok (.if_icmp .eq off, 3)) (kt : x = y → V p l e R s m args below meth c nL G A (S) (k) (n) Q (tgt) (lv) (st)) (kf : ¬ x = y → V p l e R s m args below meth c nL G A (S) (k) (n) Q (pc + 3) (lv) (st)) : V p l e R s m args below meth c nL G A (S) (k) (n) Q (pc) (lv) (.int y :: .int x :: st) := fun H locs ls hW hS hv => lv_icmp_eq C.1 C.2.1 hd ht (fun h => kt h H locs ls hW hS hv) (fun h => kf h H locs ls hW hS hv)
theorem v_if_ne (C : Cx p l e R s m args below meth c cc nL own G A) {x : Int32} {off : Int} (tgt : Nat) (ht : (pc : Int) + off = (tgt : Int)) (hd : decode cc pc = .ok (.ifCond .ne off, 3)) (kt : ¬ x = 0 → V p l e R s m args below meth c nL G A (S) (k) (n) Q (tgt) (lv) (st)) (kf : x = 0 → V p l e R s m args below meth c nL G A (S) (k) (n) Q (pc + 3) (lv) (st)) : V p l e R s m args below meth c nL G A (S) (k) (n) Q (pc) (lv) (.int x :: st) := fun H locs ls hW hS hv => lv_if_ne C.1 C.2.1 hd ht (fun h => kt h H locs ls hW hS hv) (fun h => kf h H locs ls hW hS hv)
theorem v_icmp_ne (C : Cx p l e R s m args below meth c cc nL own G A) {x y : Int32} {off : Int} (tgt : Nat) (ht : (pc : Int) + off = (tgt : Int)) (hd : decode cc pc = .ok (.if_icmp .ne off, 3)) (kt : ¬ x = y → V p l e R s m args below meth c nL G A (S) (k) (n) Q (tgt) (lv) (st)) (kf : x = y → V p l e R s m args below meth c nL G A (S) (k) (n) Q (pc + 3) (lv) (st)) : V p l e R s m args below meth c nL G A (S) (k) (n) Q (pc) (lv) (.int y :: .int x :: st) := fun H locs ls hW hS hv => lv_icmp_ne C.1 C.2.1 hd ht (fun h => kt h H locs ls hW hS hv) (fun h => kf h H locs ls hW hS hv)
theorem v_if_lt (C : Cx p l e R s m args below meth c cc nL own G A) {x : Int32} {off : Int} (tgt : Nat) (ht : (pc : Int) + off = (tgt : Int)) (hd : decode cc pc = .ok (.ifCond .lt off, 3)) (kt : x < 0 → V p l e R s m args below meth c nL G A (S) (k) (n) Q (tgt) (lv) (st)) (kf : ¬ x < 0 → V p l e R s m args below meth c nL G A (S) (k) (n) Q (pc + 3) (lv) (st)) : V p l e R s m args below meth c nL G A (S) (k) (n) Q (pc) (lv) (.int x :: st) := fun H locs ls hW hS hv => lv_if_lt C.1 C.2.1 hd ht (fun h => kt h H locs ls hW hS hv) (fun h => kf h H locs ls hW hS hv)
theorem v_icmp_lt (C : Cx p l e R s m args below meth c cc nL own G A) {x y : Int32} {off : Int} (tgt : Nat) (ht : (pc : Int) + off = (tgt : Int)) (hd : decode cc pc = .ok (.if_icmp .lt off, 3)) (kt : x < y → V p l e R s m args below meth c nL G A (S) (k) (n) Q (tgt) (lv) (st)) (kf : ¬ x < y → V p l e R s m args below meth c nL G A (S) (k) (n) Q (pc + 3) (lv) (st)) : V p l e R s m args below meth c nL G A (S) (k) (n) Q (pc) (lv) (.int y :: .int x :: st) := fun H locs ls hW hS hv => lv_icmp_lt C.1 C.2.1 hd ht (fun h => kt h H locs ls hW hS hv) (fun h => kf h H locs ls hW hS hv)
theorem v_if_ge (C : Cx p l e R s m args below meth c cc nL own G A) {x : Int32} {off : Int} (tgt : Nat) (ht : (pc : Int) + off = (tgt : Int)) (hd : decode cc pc = .ok (.ifCond .ge off, 3)) (kt : 0 ≤ x → V p l e R s m args below meth c nL G A (S) (k) (n) Q (tgt) (lv) (st)) (kf : ¬ 0 ≤ x → V p l e R s m args below meth c nL G A (S) (k) (n) Q (pc + 3) (lv) (st)) : V p l e R s m args below meth c nL G A (S) (k) (n) Q (pc) (lv) (.int x :: st) := fun H locs ls hW hS hv => lv_if_ge C.1 C.2.1 hd ht (fun h => kt h H locs ls hW hS hv) (fun h => kf h H locs ls hW hS hv)
theorem v_icmp_ge (C : Cx p l e R s m args below meth c cc nL own G A) {x y : Int32} {off : Int} (tgt : Nat) (ht : (pc : Int) + off = (tgt : Int)) (hd : decode cc pc = .ok (.if_icmp .ge off, 3)) (kt : y ≤ x → V p l e R s m args below meth c nL G A (S) (k) (n) Q (tgt) (lv) (st)) (kf : ¬ y ≤ x → V p l e R s m args below meth c nL G A (S) (k) (n) Q (pc + 3) (lv) (st)) : V p l e R s m args below meth c nL G A (S) (k) (n) Q (pc) (lv) (.int y :: .int x :: st) := fun H locs ls hW hS hv => lv_icmp_ge C.1 C.2.1 hd ht (fun h => kt h H locs ls hW hS hv) (fun h => kf h H locs ls hW hS hv)
theorem v_if_gt (C : Cx p l e R s m args below meth c cc nL own G A) {x : Int32} {off : Int} (tgt : Nat) (ht : (pc : Int) + off = (tgt : Int)) (hd : decode cc pc = .ok (.ifCond .gt off, 3)) (kt : 0 < x → V p l e R s m args below meth c nL G A (S) (k) (n) Q (tgt) (lv) (st)) (kf : ¬ 0 < x → V p l e R s m args below meth c nL G A (S) (k) (n) Q (pc + 3) (lv) (st)) : V p l e R s m args below meth c nL G A (S) (k) (n) Q (pc) (lv) (.int x :: st) := fun H locs ls hW hS hv => lv_if_gt C.1 C.2.1 hd ht (fun h => kt h H locs ls hW hS hv) (fun h => kf h H locs ls hW hS hv)
theorem v_icmp_gt (C : Cx p l e R s m args below meth c cc nL own G A) {x y : Int32} {off : Int} (tgt : Nat) (ht : (pc : Int) + off = (tgt : Int)) (hd : decode cc pc = .ok (.if_icmp .gt off, 3)) (kt : y < x → V p l e R s m args below meth c nL G A (S) (k) (n) Q (tgt) (lv) (st)) (kf : ¬ y < x → V p l e R s m args below meth c nL G A (S) (k) (n) Q (pc + 3) (lv) (st)) : V p l e R s m args below meth c nL G A (S) (k) (n) Q (pc) (lv) (.int y :: .int x :: st) := fun H locs ls hW hS hv => lv_icmp_gt C.1 C.2.1 hd ht (fun h => kt h H locs ls hW hS hv) (fun h => kf h H locs ls hW hS hv)
theorem v_if_le (C : Cx p l e R s m args below meth c cc nL own G A) {x : Int32} {off : Int} (tgt : Nat) (ht : (pc : Int) + off = (tgt : Int)) (hd : decode cc pc = .ok (.ifCond .le off, 3)) (kt : x ≤ 0 → V p l e R s m args below meth c nL G A (S) (k) (n) Q (tgt) (lv) (st)) (kf : ¬ x ≤ 0 → V p l e R s m args below meth c nL G A (S) (k) (n) Q (pc + 3) (lv) (st)) : V p l e R s m args below meth c nL G A (S) (k) (n) Q (pc) (lv) (.int x :: st) := fun H locs ls hW hS hv => lv_if_le C.1 C.2.1 hd ht (fun h => kt h H locs ls hW hS hv) (fun h => kf h H locs ls hW hS hv)
theorem v_icmp_le (C : Cx p l e R s m args below meth c cc nL own G A) {x y : Int32} {off : Int} (tgt : Nat) (ht : (pc : Int) + off = (tgt : Int)) (hd : decode cc pc = .ok (.if_icmp .le off, 3)) (kt : x ≤ y → V p l e R s m args below meth c nL G A (S) (k) (n) Q (tgt) (lv) (st)) (kf : ¬ x ≤ y → V p l e R s m args below meth c nL G A (S) (k) (n) Q (pc + 3) (lv) (st)) : V p l e R s m args below meth c nL G A (S) (k) (n) Q (pc) (lv) (.int y :: .int x :: st) := fun H locs ls hW hS hv => lv_icmp_le C.1 C.2.1 hd ht (fun h => kt h H locs ls hW hS hv) (fun h => kf h H locs ls hW hS hv)
theorem v_ifnull (C : Cx p l e R s m args below meth c cc nL own G A) {x : Nat} {off : Int} (hd : decode cc pc = .ok (.ifnull off, 3)) (kk : V p l e R s m args below meth c nL G A (S) (k) (n) Q (pc + 3) (lv) (st)) : V p l e R s m args below meth c nL G A (S) (k) (n) Q (pc) (lv) (.ref x :: st) := fun H locs ls hW hS hv => lv_ifnull C.1 C.2.1 hd (kk H locs ls hW hS hv)
theorem v_ifnullN (C : Cx p l e R s m args below meth c cc nL own G A) {off : Int} (tgt : Nat) (ht : (pc : Int) + off = (tgt : Int)) (hd : decode cc pc = .ok (.ifnull off, 3)) (kk : V p l e R s m args below meth c nL G A (S) (k) (n) Q (tgt) (lv) (st)) : V p l e R s m args below meth c nL G A (S) (k) (n) Q (pc) (lv) (.null :: st) := fun H locs ls hW hS hv => lv_ifnullN C.1 C.2.1 hd ht (kk H locs ls hW hS hv)
theorem v_ifnonnull (C : Cx p l e R s m args below meth c cc nL own G A) {x : Nat} {off : Int} (tgt : Nat) (ht : (pc : Int) + off = (tgt : Int)) (hd : decode cc pc = .ok (.ifnonnull off, 3)) (kk : V p l e R s m args below meth c nL G A (S) (k) (n) Q (tgt) (lv) (st)) : V p l e R s m args below meth c nL G A (S) (k) (n) Q (pc) (lv) (.ref x :: st) := fun H locs ls hW hS hv => lv_ifnonnull C.1 C.2.1 hd ht (kk H locs ls hW hS hv)
theorem v_ifnonnullN (C : Cx p l e R s m args below meth c cc nL own G A) {off : Int} (hd : decode cc pc = .ok (.ifnonnull off, 3)) (kk : V p l e R s m args below meth c nL G A (S) (k) (n) Q (pc + 3) (lv) (st)) : V p l e R s m args below meth c nL G A (S) (k) (n) Q (pc) (lv) (.null :: st) := fun H locs ls hW hS hv => lv_ifnonnullN C.1 C.2.1 hd (kk H locs ls hW hS hv)
/-- a field of a kind, as a class' code links it -/
def FL (own : String) (idx kd j f tag : Nat) (ft : FieldType) (fin : Bool) : Prop :=
  ∃ (C : String) (T : u_T) (N : Nat) (ty0 : Nat → FieldType), vwCl[kd + 1]? = some (C, T, N) ∧ j < N ∧ (∀ w ∈ u_ws C T N, w ∈ wsG) ∧ Cond.fieldLink own idx (T j).1 (T j).2.1 (T j).2.2.1 ∈ wsG ∧ (fds kd)[j]? = some (tag, f) ∧ 0 < kd ∧ kd < 7 ∧ (T j).2.2.2 = fin ∧ parseFieldDescriptor (T j).2.2.1 = some ft ∧ (T j).1 = C ∧ (∀ k, k < N → parseFieldDescriptor (T k).2.2.1 = some (ty0 k)) ∧ (∀ a, a < N → ∀ b, b < N → a ≠ b → (T a).2.1 ≠ (T b).2.1)
theorem v_getI (C : Cx p l e R s m args below meth c cc nL own G A) {idx kd j f : Nat} {ft : FieldType} {fin : Bool} {a : Nat} (x : Int32) (hF : FL own idx kd j f 0 ft fin) (hk : hK S a = kd) (hx : hI S f a = x) (hd : decode cc pc = .ok (.getfield idx, 3)) (kk : V p l e R s m args below meth c nL G A (S) (k) (n) Q (pc + 3) (lv) (.int x :: st)) : V p l e R s m args below meth c nL G A (S) (k) (n) Q (pc) (lv) (.ref a :: st) := by
  intro H locs ls hW hS hv
  obtain ⟨C1, T, N, ty0, hc, hj, hin, hl, hf, h0, h7, -, -, -, -, -⟩ := hF
  obtain ⟨ws, hP, hD, hL⟩ := id hW
  obtain ⟨q0, hq⟩ := (hL a _).mp (cE_obj hk h0 h7)
  refine va_get C.1 C.2.1 C.2.2.2.2.1 hin C.2.2.2.1 C.2.2.2.2.2.2.1.1 hP q0 hq hc j hj (C.2.2.2.2.1 _ hl) (fun _ h => h) (v := .int x) ?_ hd (kk H locs ls hW hS hv)
  rw [List.getElem?_map, hf]
  simp [fv, hx, va_rf]
theorem v_getJ (C : Cx p l e R s m args below meth c cc nL own G A) {idx kd j f : Nat} {ft : FieldType} {fin : Bool} {a : Nat} (x : Int64) (hF : FL own idx kd j f 1 ft fin) (hk : hK S a = kd) (hx : hJ S f a = x) (hd : decode cc pc = .ok (.getfield idx, 3)) (kk : V p l e R s m args below meth c nL G A (S) (k) (n) Q (pc + 3) (lv) (.long x :: st)) : V p l e R s m args below meth c nL G A (S) (k) (n) Q (pc) (lv) (.ref a :: st) := by
  intro H locs ls hW hS hv
  obtain ⟨C1, T, N, ty0, hc, hj, hin, hl, hf, h0, h7, -, -, -, -, -⟩ := hF
  obtain ⟨ws, hP, hD, hL⟩ := id hW
  obtain ⟨q0, hq⟩ := (hL a _).mp (cE_obj hk h0 h7)
  refine va_get C.1 C.2.1 C.2.2.2.2.1 hin C.2.2.2.1 C.2.2.2.2.2.2.1.1 hP q0 hq hc j hj (C.2.2.2.2.1 _ hl) (fun _ h => h) (v := .long x) ?_ hd (kk H locs ls hW hS hv)
  rw [List.getElem?_map, hf]
  simp [fv, hx, va_rf]
theorem v_getR (C : Cx p l e R s m args below meth c cc nL own G A) {idx kd j f : Nat} {ft : FieldType} {fin : Bool} {a : Nat} (x : Nat) (hF : FL own idx kd j f 2 ft fin) (hk : hK S a = kd) (hx : hR S f a = some x) (hd : decode cc pc = .ok (.getfield idx, 3)) (kk : V p l e R s m args below meth c nL G A (S) (k) (n) Q (pc + 3) (lv) (.ref x :: st)) : V p l e R s m args below meth c nL G A (S) (k) (n) Q (pc) (lv) (.ref a :: st) := by
  intro H locs ls hW hS hv
  obtain ⟨C1, T, N, ty0, hc, hj, hin, hl, hf, h0, h7, -, -, -, -, -⟩ := hF
  obtain ⟨ws, hP, hD, hL⟩ := id hW
  obtain ⟨q0, hq⟩ := (hL a _).mp (cE_obj hk h0 h7)
  refine va_get C.1 C.2.1 C.2.2.2.2.1 hin C.2.2.2.1 C.2.2.2.2.2.2.1.1 hP q0 hq hc j hj (C.2.2.2.2.1 _ hl) (fun _ h => h) (v := .ref x) ?_ hd (kk H locs ls hW hS hv)
  rw [List.getElem?_map, hf]
  simp [fv, hx, va_rf]
theorem v_getRn (C : Cx p l e R s m args below meth c cc nL own G A) {idx kd j f : Nat} {ft : FieldType} {fin : Bool} {a : Nat} (hF : FL own idx kd j f 2 ft fin) (hk : hK S a = kd) (hx : hR S f a = none) (hd : decode cc pc = .ok (.getfield idx, 3)) (kk : V p l e R s m args below meth c nL G A (S) (k) (n) Q (pc + 3) (lv) (.null :: st)) : V p l e R s m args below meth c nL G A (S) (k) (n) Q (pc) (lv) (.ref a :: st) := by
  intro H locs ls hW hS hv
  obtain ⟨C1, T, N, ty0, hc, hj, hin, hl, hf, h0, h7, -, -, -, -, -⟩ := hF
  obtain ⟨ws, hP, hD, hL⟩ := id hW
  obtain ⟨q0, hq⟩ := (hL a _).mp (cE_obj hk h0 h7)
  refine va_get C.1 C.2.1 C.2.2.2.2.1 hin C.2.2.2.1 C.2.2.2.2.2.2.1.1 hP q0 hq hc j hj (C.2.2.2.2.1 _ hl) (fun _ h => h) (v := .null) ?_ hd (kk H locs ls hW hS hv)
  rw [List.getElem?_map, hf]
  simp [fv, hx, va_rf]
theorem v_putI (C : Cx p l e R s m args below meth c cc nL own G A) {idx kd j f : Nat} {ft : FieldType} {a : Nat} {x : Int32} (hF : FL own idx kd j f 0 ft false) (hk : hK S a = kd) (hn : narrow ft (.int x) = .int x) (hfit : fits ft (.int x) = true) (hd : decode cc pc = .ok (.putfield idx, 3)) (kk : V p l e R s m args below meth c nL G A (sI S f a x) (k) (n) Q (pc + 3) (lv) (st)) : V p l e R s m args below meth c nL G A (S) (k) (n) Q (pc) (lv) (.int x :: .ref a :: st) := by
  intro H locs ls hW hS hv
  obtain ⟨C1, T, N, ty0, hc, hj, hin, hl, hf, h0, h7, hfin, hpd, hdc, hty, hnm⟩ := hF
  obtain ⟨ws, hP, hD, hL⟩ := id hW
  obtain ⟨q0, hq⟩ := (hL a _).mp (cE_obj hk h0 h7)
  have hjl : j < ((fds kd).map (fv S a)).length := by simpa using (List.getElem?_eq_some_iff.mp hf).1
  refine va_put C.1 C.2.1 C.2.2.2.2.1 hin ty0 hty hnm C.2.2.2.1 C.2.2.2.2.2.2.1.1 hP hD hS q0 hq hc j hj (C.2.2.2.2.1 _ hl) (fun _ h => h) hfin  hpd hn hfit hjl hd (fun H1 locs1 hP1 hD1 hS1 => kk H1 locs1 ls ⟨_, hP1, hD1, wL_congr (wL_set hD hL hq) (fun b => ?_)⟩ hS1 hv)
  exact cE_sI hk h0 h7 hf b
theorem v_putIF (C : Cx p l e R s m args below meth c cc nL own G A) {idx kd j f : Nat} {ft : FieldType} {a : Nat} {x : Int32} (hF : FL own idx kd j f 0 ft true) (hk : hK S a = kd) (hin2 : meth.name = "<init>") (hoc : (vwCl[kd + 1]?).map Prod.fst = some own) (hn : narrow ft (.int x) = .int x) (hfit : fits ft (.int x) = true) (hd : decode cc pc = .ok (.putfield idx, 3)) (kk : V p l e R s m args below meth c nL G A (sI S f a x) (k) (n) Q (pc + 3) (lv) (st)) : V p l e R s m args below meth c nL G A (S) (k) (n) Q (pc) (lv) (.int x :: .ref a :: st) := by
  intro H locs ls hW hS hv
  obtain ⟨C1, T, N, ty0, hc, hj, hin, hl, hf, h0, h7, hfin, hpd, hdc, hty, hnm⟩ := hF
  obtain ⟨ws, hP, hD, hL⟩ := id hW
  obtain ⟨q0, hq⟩ := (hL a _).mp (cE_obj hk h0 h7)
  have hjl : j < ((fds kd).map (fv S a)).length := by simpa using (List.getElem?_eq_some_iff.mp hf).1
  refine va_putF C.1 C.2.1 C.2.2.2.2.1 hin ty0 hty hnm C.2.2.2.1 C.2.2.2.2.2.2.1.1 hP hD hS q0 hq hc j hj (C.2.2.2.2.1 _ hl) (fun _ h => h) hfin hin2 (by rw [hc] at hoc; rw [hdc]; exact Option.some.inj hoc) hpd hn hfit hjl hd (fun H1 locs1 hP1 hD1 hS1 => kk H1 locs1 ls ⟨_, hP1, hD1, wL_congr (wL_set hD hL hq) (fun b => ?_)⟩ hS1 hv)
  exact cE_sI hk h0 h7 hf b
theorem v_putJ (C : Cx p l e R s m args below meth c cc nL own G A) {idx kd j f : Nat} {ft : FieldType} {a : Nat} {x : Int64} (hF : FL own idx kd j f 1 ft false) (hk : hK S a = kd) (hn : narrow ft (.long x) = .long x) (hfit : fits ft (.long x) = true) (hd : decode cc pc = .ok (.putfield idx, 3)) (kk : V p l e R s m args below meth c nL G A (sJ S f a x) (k) (n) Q (pc + 3) (lv) (st)) : V p l e R s m args below meth c nL G A (S) (k) (n) Q (pc) (lv) (.long x :: .ref a :: st) := by
  intro H locs ls hW hS hv
  obtain ⟨C1, T, N, ty0, hc, hj, hin, hl, hf, h0, h7, hfin, hpd, hdc, hty, hnm⟩ := hF
  obtain ⟨ws, hP, hD, hL⟩ := id hW
  obtain ⟨q0, hq⟩ := (hL a _).mp (cE_obj hk h0 h7)
  have hjl : j < ((fds kd).map (fv S a)).length := by simpa using (List.getElem?_eq_some_iff.mp hf).1
  refine va_put C.1 C.2.1 C.2.2.2.2.1 hin ty0 hty hnm C.2.2.2.1 C.2.2.2.2.2.2.1.1 hP hD hS q0 hq hc j hj (C.2.2.2.2.1 _ hl) (fun _ h => h) hfin  hpd hn hfit hjl hd (fun H1 locs1 hP1 hD1 hS1 => kk H1 locs1 ls ⟨_, hP1, hD1, wL_congr (wL_set hD hL hq) (fun b => ?_)⟩ hS1 hv)
  exact cE_sJ hk h0 h7 hf b
theorem v_putJF (C : Cx p l e R s m args below meth c cc nL own G A) {idx kd j f : Nat} {ft : FieldType} {a : Nat} {x : Int64} (hF : FL own idx kd j f 1 ft true) (hk : hK S a = kd) (hin2 : meth.name = "<init>") (hoc : (vwCl[kd + 1]?).map Prod.fst = some own) (hn : narrow ft (.long x) = .long x) (hfit : fits ft (.long x) = true) (hd : decode cc pc = .ok (.putfield idx, 3)) (kk : V p l e R s m args below meth c nL G A (sJ S f a x) (k) (n) Q (pc + 3) (lv) (st)) : V p l e R s m args below meth c nL G A (S) (k) (n) Q (pc) (lv) (.long x :: .ref a :: st) := by
  intro H locs ls hW hS hv
  obtain ⟨C1, T, N, ty0, hc, hj, hin, hl, hf, h0, h7, hfin, hpd, hdc, hty, hnm⟩ := hF
  obtain ⟨ws, hP, hD, hL⟩ := id hW
  obtain ⟨q0, hq⟩ := (hL a _).mp (cE_obj hk h0 h7)
  have hjl : j < ((fds kd).map (fv S a)).length := by simpa using (List.getElem?_eq_some_iff.mp hf).1
  refine va_putF C.1 C.2.1 C.2.2.2.2.1 hin ty0 hty hnm C.2.2.2.1 C.2.2.2.2.2.2.1.1 hP hD hS q0 hq hc j hj (C.2.2.2.2.1 _ hl) (fun _ h => h) hfin hin2 (by rw [hc] at hoc; rw [hdc]; exact Option.some.inj hoc) hpd hn hfit hjl hd (fun H1 locs1 hP1 hD1 hS1 => kk H1 locs1 ls ⟨_, hP1, hD1, wL_congr (wL_set hD hL hq) (fun b => ?_)⟩ hS1 hv)
  exact cE_sJ hk h0 h7 hf b
theorem v_putR (C : Cx p l e R s m args below meth c cc nL own G A) {idx kd j f : Nat} {ft : FieldType} {a : Nat} {x : Nat} (hF : FL own idx kd j f 2 ft false) (hk : hK S a = kd) (hn : narrow ft (.ref x) = .ref x) (hfit : fits ft (.ref x) = true) (hd : decode cc pc = .ok (.putfield idx, 3)) (kk : V p l e R s m args below meth c nL G A (sR S f a (some x)) (k) (n) Q (pc + 3) (lv) (st)) : V p l e R s m args below meth c nL G A (S) (k) (n) Q (pc) (lv) (.ref x :: .ref a :: st) := by
  intro H locs ls hW hS hv
  obtain ⟨C1, T, N, ty0, hc, hj, hin, hl, hf, h0, h7, hfin, hpd, hdc, hty, hnm⟩ := hF
  obtain ⟨ws, hP, hD, hL⟩ := id hW
  obtain ⟨q0, hq⟩ := (hL a _).mp (cE_obj hk h0 h7)
  have hjl : j < ((fds kd).map (fv S a)).length := by simpa using (List.getElem?_eq_some_iff.mp hf).1
  refine va_put C.1 C.2.1 C.2.2.2.2.1 hin ty0 hty hnm C.2.2.2.1 C.2.2.2.2.2.2.1.1 hP hD hS q0 hq hc j hj (C.2.2.2.2.1 _ hl) (fun _ h => h) hfin  hpd hn hfit hjl hd (fun H1 locs1 hP1 hD1 hS1 => kk H1 locs1 ls ⟨_, hP1, hD1, wL_congr (wL_set hD hL hq) (fun b => ?_)⟩ hS1 hv)
  exact cE_sR hk h0 h7 hf b
theorem v_putRF (C : Cx p l e R s m args below meth c cc nL own G A) {idx kd j f : Nat} {ft : FieldType} {a : Nat} {x : Nat} (hF : FL own idx kd j f 2 ft true) (hk : hK S a = kd) (hin2 : meth.name = "<init>") (hoc : (vwCl[kd + 1]?).map Prod.fst = some own) (hn : narrow ft (.ref x) = .ref x) (hfit : fits ft (.ref x) = true) (hd : decode cc pc = .ok (.putfield idx, 3)) (kk : V p l e R s m args below meth c nL G A (sR S f a (some x)) (k) (n) Q (pc + 3) (lv) (st)) : V p l e R s m args below meth c nL G A (S) (k) (n) Q (pc) (lv) (.ref x :: .ref a :: st) := by
  intro H locs ls hW hS hv
  obtain ⟨C1, T, N, ty0, hc, hj, hin, hl, hf, h0, h7, hfin, hpd, hdc, hty, hnm⟩ := hF
  obtain ⟨ws, hP, hD, hL⟩ := id hW
  obtain ⟨q0, hq⟩ := (hL a _).mp (cE_obj hk h0 h7)
  have hjl : j < ((fds kd).map (fv S a)).length := by simpa using (List.getElem?_eq_some_iff.mp hf).1
  refine va_putF C.1 C.2.1 C.2.2.2.2.1 hin ty0 hty hnm C.2.2.2.1 C.2.2.2.2.2.2.1.1 hP hD hS q0 hq hc j hj (C.2.2.2.2.1 _ hl) (fun _ h => h) hfin hin2 (by rw [hc] at hoc; rw [hdc]; exact Option.some.inj hoc) hpd hn hfit hjl hd (fun H1 locs1 hP1 hD1 hS1 => kk H1 locs1 ls ⟨_, hP1, hD1, wL_congr (wL_set hD hL hq) (fun b => ?_)⟩ hS1 hv)
  exact cE_sR hk h0 h7 hf b
theorem cA_i {S : HS} {a : Nat} (h : hK S a < 12) : cA S a = (hN S a, .inl (aI S a)) := by unfold cA; rw [if_pos h]
theorem cA_j {S : HS} {a : Nat} (h : hK S a = 12) : cA S a = (hN S a, .inr (.inl (aJ S a))) := by unfold cA; rw [h]; rfl
theorem cA_r {S : HS} {a : Nat} (h : 12 < hK S a) (h2 : hK S a < 18) : cA S a = (hN S a, .inr (.inr (.inr (.inr (aR S a))))) := by unfold cA; rw [if_neg (by omega), if_neg (by omega), if_neg (by omega)]
theorem cA_d {S : HS} {a : Nat} (h : hK S a = 18) : cA S a = (hN S a, .inr (.inr (.inr (.inl (aD S a))))) := by unfold cA; rw [h]; rfl
theorem v_alen (C : Cx p l e R s m args below meth c cc nL own G A) {a : Nat} (x : Int32) (h1 : 10 ≤ hK S a) (h2 : hK S a ≤ 18) (hx : Int32.ofNat (hN S a) = x) (hd : decode cc pc = .ok (.arraylength, 1)) (kk : V p l e R s m args below meth c nL G A (S) (k) (n) Q (pc + 1) (lv) (.int x :: st)) : V p l e R s m args below meth c nL G A (S) (k) (n) Q (pc) (lv) (.ref a :: st) := by
  intro H locs ls hW hS hv
  obtain ⟨ws, hP, hD, hL⟩ := id hW
  obtain ⟨q0, hq⟩ := (hL a _).mp (cE_arr rfl h1)
  exact va_alen C.1 C.2.1 C.2.2.2.2.2.2.1.1 hP q0 (hK S a - 10) hq (gK_ty h1 h2) hx hd (kk H locs ls hW hS hv)
theorem v_iald (C : Cx p l e R s m args below meth c cc nL own G A) {a : Nat} {i : Int32} (x : Int32) (hk : hK S a = 10) (hi : vp_in i (hN S a)) (hx : aI S a i.toNatClampNeg = x) (hd : decode cc pc = .ok (.iaload, 1)) (kk : V p l e R s m args below meth c nL G A (S) (k) (n) Q (pc + 1) (lv) (.int x :: st)) : V p l e R s m args below meth c nL G A (S) (k) (n) Q (pc) (lv) (.int i :: .ref a :: st) := by
  intro H locs ls hW hS hv
  obtain ⟨ws, hP, hD, hL⟩ := id hW
  obtain ⟨q0, hq⟩ := (hL a _).mp (cE_arr hk (by decide))
  rw [cA_i (by omega)] at hq
  subst hx
  exact va_iald C.1 C.2.1 C.2.2.2.2.2.2.1.1 hP q0 0 hq (gK_ty (kd := 10) (by decide) (by decide)) hi hd (kk H locs ls hW hS hv)
theorem v_cald (C : Cx p l e R s m args below meth c cc nL own G A) {a : Nat} {i : Int32} (x : Int32) (hk : hK S a = 11) (hi : vp_in i (hN S a)) (hx : aI S a i.toNatClampNeg = x) (hd : decode cc pc = .ok (.caload, 1)) (kk : V p l e R s m args below meth c nL G A (S) (k) (n) Q (pc + 1) (lv) (.int x :: st)) : V p l e R s m args below meth c nL G A (S) (k) (n) Q (pc) (lv) (.int i :: .ref a :: st) := by
  intro H locs ls hW hS hv
  obtain ⟨ws, hP, hD, hL⟩ := id hW
  obtain ⟨q0, hq⟩ := (hL a _).mp (cE_arr hk (by decide))
  rw [cA_i (by omega)] at hq
  subst hx
  exact va_cald C.1 C.2.1 C.2.2.2.2.2.2.1.1 hP q0 1 hq (gK_ty (kd := 11) (by decide) (by decide)) hi hd (kk H locs ls hW hS hv)
theorem v_lald (C : Cx p l e R s m args below meth c cc nL own G A) {a : Nat} {i : Int32} (x : Int64) (hk : hK S a = 12) (hi : vp_in i (hN S a)) (hx : aJ S a i.toNatClampNeg = x) (hd : decode cc pc = .ok (.laload, 1)) (kk : V p l e R s m args below meth c nL G A (S) (k) (n) Q (pc + 1) (lv) (.long x :: st)) : V p l e R s m args below meth c nL G A (S) (k) (n) Q (pc) (lv) (.int i :: .ref a :: st) := by
  intro H locs ls hW hS hv
  obtain ⟨ws, hP, hD, hL⟩ := id hW
  obtain ⟨q0, hq⟩ := (hL a _).mp (cE_arr hk (by decide))
  rw [cA_j (by omega)] at hq
  subst hx
  exact va_lald C.1 C.2.1 C.2.2.2.2.2.2.1.1 hP q0 2 hq (gK_ty (kd := 12) (by decide) (by decide)) hi hd (kk H locs ls hW hS hv)
theorem v_dald (C : Cx p l e R s m args below meth c cc nL own G A) {a : Nat} {i : Int32} (x : UInt64) (hk : hK S a = 18) (hi : vp_in i (hN S a)) (hx : aD S a i.toNatClampNeg = x) (hd : decode cc pc = .ok (.daload, 1)) (kk : V p l e R s m args below meth c nL G A (S) (k) (n) Q (pc + 1) (lv) (.double x :: st)) : V p l e R s m args below meth c nL G A (S) (k) (n) Q (pc) (lv) (.int i :: .ref a :: st) := by
  intro H locs ls hW hS hv
  obtain ⟨ws, hP, hD, hL⟩ := id hW
  obtain ⟨q0, hq⟩ := (hL a _).mp (cE_arr hk (by decide))
  rw [cA_d hk] at hq
  subst hx
  exact va_dald C.1 C.2.1 C.2.2.2.2.2.2.1.1 hP q0 8 hq (gK_ty (kd := 18) (by decide) (by decide)) hi hd (kk H locs ls hW hS hv)
theorem v_aald (C : Cx p l e R s m args below meth c cc nL own G A) {a : Nat} {i : Int32} (x : Option Nat) (h1 : 12 < hK S a) (h2 : hK S a < 18) (hi : vp_in i (hN S a)) (hx : aR S a i.toNatClampNeg = x) (hd : decode cc pc = .ok (.aaload, 1)) (kk : V p l e R s m args below meth c nL G A (S) (k) (n) Q (pc + 1) (lv) (va_rf x :: st)) : V p l e R s m args below meth c nL G A (S) (k) (n) Q (pc) (lv) (.int i :: .ref a :: st) := by
  intro H locs ls hW hS hv
  have hat := hW.at (cE_arr (G := G) (S := S) (a := a) rfl (by omega))
  rw [cA_r h1 h2] at hat
  have hlt : i.toNatClampNeg < hN S a := Nat.not_le.mp fun q => hi (Or.inr q)
  have hty := (C.2.2.2.2.2.2.1.1.2 _ _ (gK_ty (G := G) (kd := hK S a) (by omega) (by omega))).1
  subst hx
  refine W.aald (ty := tyA (hK S a)) (v := va_rf (aR S a i.toNatClampNeg)) C.1 C.2.1 hat (hty (hN S a) (fun j => va_rf (aR S a j))) ?_ (fun q => by cases q) (by show ¬ (i < 0 ∨ (arrV _ _ _).slots.size ≤ _); rw [arrV_size]; exact hi) (by show (arrV _ _ _).slots[_]? = _; rw [arrV_read _ _ hlt]) rfl rfl hd (kk H locs ls hW hS hv)
  have hc : hK S a = 13 ∨ hK S a = 14 ∨ hK S a = 15 ∨ hK S a = 16 ∨ hK S a = 17 := by omega
  rcases hc with h | h | h | h | h <;> rw [h] <;> rfl
theorem v_iast (C : Cx p l e R s m args below meth c cc nL own G A) {a : Nat} {i : Int32} {x : Int32} (hk : hK S a = 10) (hi : vp_in i (hN S a)) (hd : decode cc pc = .ok (.iastore, 1)) (kk : V p l e R s m args below meth c nL G A (tI S a i.toNatClampNeg x) (k) (n) Q (pc + 1) (lv) (st)) : V p l e R s m args below meth c nL G A (S) (k) (n) Q (pc) (lv) (.int x :: .int i :: .ref a :: st) := by
  intro H locs ls hW hS hv
  obtain ⟨ws, hP, hD, hL⟩ := id hW
  obtain ⟨q0, hq⟩ := (hL a _).mp (cE_arr hk (by decide))
  rw [cA_i (by omega)] at hq
  refine va_iast C.1 C.2.1 C.2.2.2.2.2.2.1.1 hP hD hS q0 0 hq (gK_ty (kd := 10) (by decide) (by decide)) hi hd (fun H1 locs1 hP1 hD1 hS1 => kk H1 locs1 ls ⟨_, hP1, hD1, wL_congr (wL_set hD hL hq) (fun b => ?_)⟩ hS1 hv)
  rw [cE_tI (by omega) b, hk, cA_i (S := tI S a i.toNatClampNeg x) (show hK S a < 12 by omega)]
  have e : aI (tI S a i.toNatClampNeg x) a = upd (aI S a) i.toNatClampNeg (x) := by
    funext z
    simp [aI, tI, u2, upd]
  rw [e]
  rfl
theorem v_last (C : Cx p l e R s m args below meth c cc nL own G A) {a : Nat} {i : Int32} {x : Int64} (hk : hK S a = 12) (hi : vp_in i (hN S a)) (hd : decode cc pc = .ok (.lastore, 1)) (kk : V p l e R s m args below meth c nL G A (tJ S a i.toNatClampNeg x) (k) (n) Q (pc + 1) (lv) (st)) : V p l e R s m args below meth c nL G A (S) (k) (n) Q (pc) (lv) (.long x :: .int i :: .ref a :: st) := by
  intro H locs ls hW hS hv
  obtain ⟨ws, hP, hD, hL⟩ := id hW
  obtain ⟨q0, hq⟩ := (hL a _).mp (cE_arr hk (by decide))
  rw [cA_j (by omega)] at hq
  refine va_last C.1 C.2.1 C.2.2.2.2.2.2.1.1 hP hD hS q0 2 hq (gK_ty (kd := 12) (by decide) (by decide)) hi hd (fun H1 locs1 hP1 hD1 hS1 => kk H1 locs1 ls ⟨_, hP1, hD1, wL_congr (wL_set hD hL hq) (fun b => ?_)⟩ hS1 hv)
  rw [cE_tJ (by omega) b, hk, cA_j (S := tJ S a i.toNatClampNeg x) (show hK S a = 12 from hk)]
  have e : aJ (tJ S a i.toNatClampNeg x) a = vp_updL (aJ S a) i.toNatClampNeg (x) := by
    funext z
    simp [aJ, tJ, u2, vp_updL]
  rw [e]
  rfl
theorem v_dast (C : Cx p l e R s m args below meth c cc nL own G A) {a : Nat} {i : Int32} {x : UInt64} (hk : hK S a = 18) (hi : vp_in i (hN S a)) (hd : decode cc pc = .ok (.dastore, 1)) (kk : V p l e R s m args below meth c nL G A (tD S a i.toNatClampNeg x) (k) (n) Q (pc + 1) (lv) (st)) : V p l e R s m args below meth c nL G A (S) (k) (n) Q (pc) (lv) (.double x :: .int i :: .ref a :: st) := by
  intro H locs ls hW hS hv
  obtain ⟨ws, hP, hD, hL⟩ := id hW
  obtain ⟨q0, hq⟩ := (hL a _).mp (cE_arr hk (by decide))
  rw [cA_d (by omega)] at hq
  refine va_dast C.1 C.2.1 C.2.2.2.2.2.2.1.1 hP hD hS q0 8 hq (gK_ty (kd := 18) (by decide) (by decide)) hi hd (fun H1 locs1 hP1 hD1 hS1 => kk H1 locs1 ls ⟨_, hP1, hD1, wL_congr (wL_set hD hL hq) (fun b => ?_)⟩ hS1 hv)
  rw [cE_tD (by omega) b, hk, cA_d (S := tD S a i.toNatClampNeg x) (show hK S a = 18 from hk)]
  have e : aD (tD S a i.toNatClampNeg x) a = vf_upd (aD S a) i.toNatClampNeg (x) := by
    funext z
    simp [aD, tD, u2, vf_upd]
  rw [e]
  rfl
theorem v_cast (C : Cx p l e R s m args below meth c cc nL own G A) {a : Nat} {i : Int32} {x : Int32} (hk : hK S a = 11) (hi : vp_in i (hN S a)) (hc : vp_nar .char x = x) (hd : decode cc pc = .ok (.castore, 1)) (kk : V p l e R s m args below meth c nL G A (tI S a i.toNatClampNeg x) (k) (n) Q (pc + 1) (lv) (st)) : V p l e R s m args below meth c nL G A (S) (k) (n) Q (pc) (lv) (.int x :: .int i :: .ref a :: st) := by
  intro H locs ls hW hS hv
  obtain ⟨ws, hP, hD, hL⟩ := id hW
  obtain ⟨q0, hq⟩ := (hL a _).mp (cE_arr hk (by decide))
  rw [cA_i (by omega)] at hq
  refine va_cast C.1 C.2.1 C.2.2.2.2.2.2.1.1 hP hD hS q0 1 hq (gK_ty (kd := 11) (by decide) (by decide)) hi hd (fun H1 locs1 hP1 hD1 hS1 => kk H1 locs1 ls ⟨_, hP1, hD1, wL_congr (wL_set hD hL hq) (fun b => ?_)⟩ hS1 hv)
  rw [cE_tI (by omega) b, hk, cA_i (S := tI S a i.toNatClampNeg x) (show hK S a < 12 by omega)]
  have e : aI (tI S a i.toNatClampNeg x) a = upd (aI S a) i.toNatClampNeg (vp_nar .char x) := by
    funext z
    simp [aI, tI, u2, upd, hc]
  rw [e]
  rfl
theorem v_aast (C : Cx p l e R s m args below meth c cc nL own G A) {a b kd ke : Nat} {i : Int32} (hk : hK S a = kd) (hb : hK S b = ke) (hp : (kd = 13 ∧ ke = 1) ∨ (kd = 14 ∧ ke = 3) ∨ (kd = 15 ∧ ke = 4)) (hi : vp_in i (hN S a)) (hd : decode cc pc = .ok (.aastore, 1)) (kk : V p l e R s m args below meth c nL G A (tR S a i.toNatClampNeg (some b)) (k) (n) Q (pc + 1) (lv) (st)) : V p l e R s m args below meth c nL G A (S) (k) (n) Q (pc) (lv) (.ref b :: .int i :: .ref a :: st) := by
  intro H locs ls hW hS hv
  obtain ⟨ws, hP, hD, hL⟩ := id hW
  obtain ⟨q0, hq⟩ := (hL a _).mp (cE_arr hk (by omega))
  obtain ⟨q1, hq1⟩ := (hL b _).mp (cE_obj hb (by omega) (by omega))
  rw [cA_r (by omega) (by omega)] at hq
  have fin : ∀ (H1 : Heap) (locs1 : List Loc), va_P G.1 vwCl (ws.set q0 (a, .inl (G.2.1 kd, hN S a, .inr (.inr (.inr (.inr (va_up (aR S a) i.toNatClampNeg (some b)))))))) H1 → va_D A (ws.set q0 (a, .inl (G.2.1 kd, hN S a, .inr (.inr (.inr (.inr (va_up (aR S a) i.toNatClampNeg (some b)))))))) → va_S A s.heap H1 locs1 → W p l e R s m args below meth c H1 locs1 k n Q (F0 m (pc + 1) ls st) := by
    intro H1 locs1 hP1 hD1 hS1
    refine kk H1 locs1 ls ⟨_, hP1, hD1, wL_congr (wL_set hD hL hq) (fun b0 => ?_)⟩ hS1 hv
    rw [cE_tR (by omega) b0, hk, cA_r (S := tR S a i.toNatClampNeg (some b)) (show 12 < hK S a by omega) (show hK S a < 18 by omega)]
    have e : aR (tR S a i.toNatClampNeg (some b)) a = va_up (aR S a) i.toNatClampNeg (some b) := by
      funext z
      simp [aR, tR, u2, va_up]
    rw [e]
    rfl
  rcases hp with ⟨rfl, rfl⟩ | ⟨rfl, rfl⟩ | ⟨rfl, rfl⟩
  · exact va_astq C.1 C.2.1 C.2.2.2.2.2.2.1.1 hP hD hS q0 3 q1 2 hq (r := (RX0, TX0, 5)) (gK_ty (kd := 13) (by decide) (by decide)) hq1 rfl hi hd fin
  · exact va_astq C.1 C.2.1 C.2.2.2.2.2.2.1.1 hP hD hS q0 4 q1 4 hq (r := (RX2, TX2, 3)) (gK_ty (kd := 14) (by decide) (by decide)) hq1 rfl hi hd fin
  · exact va_astq C.1 C.2.1 C.2.2.2.2.2.2.1.1 hP hD hS q0 5 q1 5 hq (r := (RX3, TX3, 12)) (gK_ty (kd := 15) (by decide) (by decide)) hq1 rfl hi hd fin
theorem v_aastC (C : Cx p l e R s m args below meth c cc nL own G A) {a b : Nat} {i : Int32} (hk : hK S a = 17) (hb : hK S b = 11) (hi : vp_in i (hN S a)) (hd : decode cc pc = .ok (.aastore, 1)) (kk : V p l e R s m args below meth c nL G A (tR S a i.toNatClampNeg (some b)) (k) (n) Q (pc + 1) (lv) (st)) : V p l e R s m args below meth c nL G A (S) (k) (n) Q (pc) (lv) (.ref b :: .int i :: .ref a :: st) := by
  intro H locs ls hW hS hv
  obtain ⟨ws, hP, hD, hL⟩ := id hW
  obtain ⟨q0, hq⟩ := (hL a _).mp (cE_arr hk (by decide))
  rw [cA_r (by omega) (by omega)] at hq
  have hat := hP q0 _ hq
  have hatb := hW.at (cE_arr (G := G) hb (by decide))
  rw [cA_i (by omega)] at hatb
  obtain ⟨kA, h1, h2⟩ := C.2.2.2.2.2.2.1.2
  obtain ⟨-, kB, h4, compB, h5⟩ := (C.2.2.2.2.2.2.1.1.2 _ _ (gK_ty (G := G) (kd := 11) (by decide) (by decide))).1 0 (fun _ => .null)
  have hlt : ¬ i < 0 ∧ i.toNatClampNeg < (arrV (G.2.1 17) (hN S a) (fun j => va_rf (aR S a j))).slots.size := by
    rw [arrV_size]
    exact ⟨fun q => hi (Or.inl q), Nat.not_le.mp fun q => hi (Or.inr q)⟩
  refine W.aast C.1 C.2.1 hat (fun q z => by cases z) (fun q => by cases q) h1 h2 rfl (kcomp := kB) h4 hlt hatb (fun q z => by cases z) h4 (va_asg _ _) rfl rfl hd fun H1 e z oq => ?_
  obtain ⟨X, hX⟩ : ∃ X : va_E, X = .inl (G.2.1 17, hN S a, .inr (.inr (.inr (.inr (va_up (aR S a) i.toNatClampNeg (some b)))))) := ⟨_, rfl⟩
  have hatX : va_at G.1 vwCl (a, X) H1 := by
    subst hX
    show H1[a]? = some (arrV (G.2.1 17) (hN S a) (fun j => va_rf (va_up (aR S a) i.toNatClampNeg (some b) j)))
    refine e.trans ?_
    show some ((arrV (G.2.1 17) (hN S a) (fun j => va_rf (aR S a j))).setSlot i.toNatClampNeg (.ref b)) = _
    rw [arrV_store]
    congr 2
    funext q
    by_cases hq9 : q = i.toNatClampNeg
    · subst hq9
      simp [updV, va_up, va_rf]
    · simp [updV, va_up, hq9]
  refine kk H1 _ ls ⟨ws.set q0 (a, X), hP.set hD hq hatX oq, hD.set hq, wL_congr (wL_set hD hL hq) (fun b0 => ?_)⟩ (hS.put z oq (hD.2 q0 _ hq)) hv
  rw [cE_tR (by omega) b0, hk, cA_r (S := tR S a i.toNatClampNeg (some b)) (show 12 < hK S a by omega) (show hK S a < 18 by omega), hX]
  have e : aR (tR S a i.toNatClampNeg (some b)) a = va_up (aR S a) i.toNatClampNeg (some b) := by
    funext z
    simp [aR, tR, u2, va_up]
  rw [e]
  rfl
/-- a new object of a kind -/
def NL (own : String) (idx kd N : Nat) : Prop :=
  ∃ (C : String) (T : u_T) (ty : Nat → FieldType), vwCl[kd + 1]? = some (C, T, N) ∧ (∀ w ∈ u_ws C T N, w ∈ wsG) ∧ (∀ k, k < N → parseFieldDescriptor (T k).2.2.1 = some (ty k)) ∧ Cond.classLink own idx C ∈ wsG ∧ Cond.instantiable C N ∈ wsG ∧ Cond.initialized C ∈ wsG ∧ 0 < kd ∧ kd < 7 ∧ (∀ j, j < N → defaultValue (ty j) = vp_V ((fds kd).map (fun q => if q.1 = 0 then .int 0 else if q.1 = 1 then .long 0 else .null)) j)
theorem wfresh {ws : va_W} {H1 : Heap} {q : Nat} {e1 : va_E} (hD : va_D A (ws ++ [(q, e1)])) (hL : wL ws (cE G S)) : hK S q = 0 := by
  rw [← cE_none (G := G)]
  cases hc : cE G S q with
  | none => rfl
  | some e =>
    obtain ⟨j, hj⟩ := (hL q e).mp hc
    have hlt := (List.getElem?_eq_some_iff.mp hj).1
    have := hD.1 j ws.length (q, e) (q, e1) (by rw [List.getElem?_append_left hlt]; exact hj) (by rw [List.getElem?_append_right (Nat.le_refl _)]; simp) rfl
    omega
theorem v_new (C : Cx p l e R s m args below meth c cc nL own G A) {idx kd N : Nat} (hN : NL own idx kd N) (hc : k + 1 ≤ R.cells) (hs : n + N ≤ R.slots) (hd : decode cc pc = .ok (.new idx, 3)) (kk : ∀ q : Nat, hK S q = 0 → V p l e R s m args below meth c nL G A (nO S q kd) (k + 1) (n + N) Q (pc + 3) (lv) (.ref q :: st)) : V p l e R s m args below meth c nL G A (S) (k) (n) Q (pc) (lv) (st) := by
  intro H locs ls hW hS hv
  obtain ⟨C1, T, ty, hcl, hin, hty, hlk, hins, hini, h0, h7, hdf⟩ := hN
  obtain ⟨ws, hP, hD, hL⟩ := id hW
  refine va_new C.1 C.2.1 C.2.2.2.2.1 hin ty hty C.2.2.2.1 (C.2.2.2.2.1 _ hlk) (C.2.2.2.2.1 _ hins) (C.2.2.2.2.1 _ hini) C.2.2.2.2.2.2.1.1 hP hD hS C.2.2.2.2.2.2.2.2 hcl hdf hc hs hd (fun q H1 hP1 hD1 hS1 => ?_)
  have hf := wfresh (H1 := H1) hD1 hL
  exact kk q hf H1 locs ls ⟨_, hP1, hD1, wL_congr (wL_push hL (cE_none.mpr hf)) (fun b => cE_nO h0 h7 b)⟩ hS1 hv
theorem v_newa (C : Cx p l e R s m args below meth c cc nL own G A) {kd : Nat} {at1 : ArrayType} {x : Int32} (N : Nat) (hk : (kd = 10 ∧ at1 = .int) ∨ (kd = 11 ∧ at1 = .char) ∨ (kd = 12 ∧ at1 = .long) ∨ (kd = 18 ∧ at1 = .double)) (hw : Cond.arrayClass (newarray.typeOf at1) ∈ wsG) (hn : ¬ x < 0) (hx : x.toNatClampNeg = N) (hb : N ≤ 60000000) (hc : k + 1 ≤ R.cells) (hs : n + N ≤ R.slots) (hd : decode cc pc = .ok (.newarray at1, 2)) (kk : ∀ q : Nat, hK S q = 0 → V p l e R s m args below meth c nL G A (nA S q kd N) (k + 1) (n + N) Q (pc + 2) (lv) (.ref q :: st)) : V p l e R s m args below meth c nL G A (S) (k) (n) Q (pc) (lv) (.int x :: st) := by
  intro H locs ls hW hS hv
  obtain ⟨ws, hP, hD, hL⟩ := id hW
  have hcl : ∀ (cQ : ClassId) (i : Nat) (ty : FieldType), (tysG G)[i]? = some (G.2.1 kd, ty) → va_RA s cQ ty → va_RA s (G.2.1 kd) ty → (∀ C0, ty ≠ .object C0) → cQ = G.2.1 kd := by
    intro cQ i ty _ h1 h2 hno
    cases ty with
    | object C0 => exact absurd rfl (hno C0)
    | _ => exact Option.some.inj (h1.symm.trans h2)
  have hK := C.2.2.2.2.2.2.1.1
  have go : ∀ (ty : FieldType) (a0 : vp_A), newarray.typeOf at1 = ty → (tysG G)[kd - 10]? = some (G.2.1 kd, ty) → (∀ C0, ty ≠ .object C0) → a0 = cA0 kd N → 10 ≤ kd → (∀ cQ : ClassId, vp_cell cQ a0 = arrV cQ N (fun _ => defaultValue ty)) → N * componentBytes ty ≤ 536870912 → W p l e R s m args below meth c H locs k n Q (F0 m pc ls (.int x :: st)) := by
    intro ty a0 hty htt hno ha0 h10 hcell hbytes
    refine va_newa C.1 C.2.1 (C.2.2.2.2.1 _ hw) hty hK hP hD hS C.2.2.2.2.2.2.2.2 hcell hn hx hbytes hc hs hd (fun q cQ H1 hK1 hP1 hD1 hS1 => ?_)
    have hf := wfresh (H1 := H1) hD1 hL
    have e : cQ = G.2.1 kd := hcl cQ (kd - 10) ty htt (hK1.2 (tysG G).length (cQ, ty) (by rw [List.getElem?_append_right (Nat.le_refl _)]; simp)).2 (hK.2 _ _ htt).2 hno
    subst e
    subst ha0
    exact kk q hf H1 locs ls ⟨_, hP1, hD1, wL_congr (wL_push hL (cE_none.mpr hf)) (fun b => cE_nA h10 b)⟩ hS1 hv
  rcases hk with ⟨rfl, rfl⟩ | ⟨rfl, rfl⟩ | ⟨rfl, rfl⟩ | ⟨rfl, rfl⟩
  · exact go .int (N, .inl (fun _ => 0)) rfl rfl (fun _ h => by cases h) rfl (by decide) (fun _ => rfl) (by show N * 4 ≤ _; omega)
  · exact go .char (N, .inl (fun _ => 0)) rfl rfl (fun _ h => by cases h) rfl (by decide) (fun _ => rfl) (by show N * 2 ≤ _; omega)
  · exact go .long (N, .inr (.inl (fun _ => 0))) rfl rfl (fun _ h => by cases h) rfl (by decide) (fun _ => rfl) (by show N * 8 ≤ _; omega)
  · exact go .double (N, .inr (.inr (.inr (.inl (fun _ => 0))))) rfl rfl (fun _ h => by cases h) rfl (by decide) (fun _ => rfl) (by show N * 8 ≤ _; omega)
theorem v_newq (C : Cx p l e R s m args below meth c cc nL own G A) {kd idx : Nat} {x : Int32} {C0 : String} (N : Nat) (hk : (kd = 13 ∧ C0 = RX0) ∨ (kd = 14 ∧ C0 = RX2) ∨ (kd = 15 ∧ C0 = RX3)) (hl : Cond.classLink own idx C0 ∈ wsG) (hov : Cond.arrayOver (.object C0) ∈ wsG) (hn : ¬ x < 0) (hx : x.toNatClampNeg = N) (hb : N ≤ 100000000) (hc : k + 1 ≤ R.cells) (hs : n + N ≤ R.slots) (hd : decode cc pc = .ok (.anewarray idx, 3)) (kk : ∀ q : Nat, hK S q = 0 → V p l e R s m args below meth c nL G A (nA S q kd N) (k + 1) (n + N) Q (pc + 3) (lv) (.ref q :: st)) : V p l e R s m args below meth c nL G A (S) (k) (n) Q (pc) (lv) (.int x :: st) := by
  intro H locs ls hW hS hv
  obtain ⟨ws, hP, hD, hL⟩ := id hW
  have hK := C.2.2.2.2.2.2.1.1
  have htt : (tysG G)[kd - 10]? = some (G.2.1 kd, .object C0) := by rcases hk with ⟨rfl, rfl⟩ | ⟨rfl, rfl⟩ | ⟨rfl, rfl⟩ <;> rfl
  have h10 : 10 ≤ kd := by omega
  have ha0 : cA0 kd N = (N, .inr (.inr (.inr (.inr (fun _ => none))))) := by rcases hk with ⟨rfl, rfl⟩ | ⟨rfl, rfl⟩ | ⟨rfl, rfl⟩ <;> rfl
  refine va_newq C.1 C.2.1 C.2.2.2.1 (C.2.2.2.2.1 _ hl) (va_AO.of (C.2.2.2.2.1 _ hov)) hK hP hD hS C.2.2.2.2.2.2.2.2 hn hx (by omega) hc hs hd (fun q cQ H1 hK1 hP1 hD1 hS1 => ?_)
  have hf := wfresh (H1 := H1) hD1 hL
  obtain ⟨kA, comp, e1, e2, e3, e4⟩ := (hK1.2 (tysG G).length (cQ, .object C0) (by rw [List.getElem?_append_right (Nat.le_refl _)]; simp)).2
  obtain ⟨kA', comp', g1, g2, g3, g4⟩ := (hK.2 _ _ htt).2
  have e : cQ = G.2.1 kd := Option.some.inj (e4.symm.trans g4)
  subst e
  rw [← ha0] at hP1 hD1
  exact kk q hf H1 locs ls ⟨_, hP1, hD1, wL_congr (wL_push hL (cE_none.mpr hf)) (fun b => cE_nA h10 b)⟩ hS1 hv
end WALK
end
section
theorem gE.moved {G : GT} {A : Nat → Prop} {u U : State} {H : Heap} (hvm : u.WarmedH U.vm) (h : gE G A u H) : gE G A U H := by
  obtain ⟨h1, h2, h3, h4, h5, h6, h7, h8⟩ := h
  exact ⟨vx_Zq.moved hvm.alike h1, vx_Zq.moved hvm.alike h2, fun q hq => vk_R.warm hvm (h3 q hq), va_Z.moved hvm.alike h4, va_O.moved hvm.alike h5, va_OF.moved hvm.alike h6, va_OF.moved hvm.alike h7, va_T.moved hvm.alike h8⟩
theorem gE.kept {G : GT} {A : Nat → Prop} {U : State} {H H1 : Heap} (h : gE G A U H) (hq : ∀ a : Nat, a < H.size → ¬ A a → H1[a]? = H[a]?) : gE G A U H1 := by
  obtain ⟨h1, h2, h3, h4, h5, h6, h7, h8⟩ := h
  exact ⟨h1.kept hq, h2.kept hq, h3, h4.kept hq, h5.kept hq, h6.kept hq, h7.kept hq, h8.kept hq⟩
theorem gE.narrow {G : GT} {A B : Nat → Prop} {U : State} {H : Heap} (h : gE G A U H) (hAB : ∀ q, B q → A q) : gE G B U H := by
  obtain ⟨h1, h2, h3, h4, h5, h6, h7, h8⟩ := h
  exact ⟨h1.narrow hAB, h2.narrow hAB, h3, h4.narrow hAB, h5.narrow hAB, h6.narrow hAB, h7.narrow hAB, h8.narrow hAB⟩
theorem wB.blind (G : GT) (S : HS) (sz : Nat) (av : List Value) : FrameBlind (va_Pc av (wB G S sz)) := fun a U g mk q => by
  obtain ⟨q0, q1, q2, q3, q4⟩ := q
  exact ⟨q0, q1, q2, gK.moved (u := U) (U := U.calling g mk a) (Vm.Alike.refl U.vm) q3, gE.moved (u := U) (U := U.calling g mk a) (State.WarmedH.refl U) q4⟩
section CALLS
variable {p : Program} {l : Launch} {e : Env} {R : Room} {s : State} {m : MethodId} {args : Array Value} {below : List Frame} {meth : Method} {c : Code} {cc : ByteArray} {nL : Nat} {own : String} {G : GT} {A : Nat → Prop} {S : HS} {k n : Nat} {Q : State → Prop} {pc : Nat} {lv lv' : List (Nat × Value)} {st : List Value}
theorem g_call {H : Heap} {locs : List Loc} {cells slots mc ms : Nat} {ls : Array Slot} {st0 rest : List Value} {post : Option Value → HS → Prop} {A0 A1 free : Nat → Prop} {H0 : Heap} {a : Array Value} (hr : va_Run p l e R s m args below meth c H locs cells slots mc ms (F0 m pc ls st0) rest (gQ post G A1 a) free) (hS : va_S A0 H0 H locs) (hA : ∀ q, q < H.size → A1 q → A0 q) (hf : ∀ q, free q → A0 q)
    (kk : ∀ (v : Option Value) (u : HS) (t : State) (H1 : Heap) (locs1 : List Loc), t.heap = H1 → s.vm.Alike t.vm → post v u → wE G A1 u t → H.size ≤ H1.size → (∀ q : Nat, q < H.size → ¬ A1 q → H1[q]? = H[q]?) → va_S A0 H0 H1 locs1 → W p l e R s m args below meth c H1 locs1 (cells + mc) (slots + ms) Q (F0 m (pc + 3) ls (v.toList ++ rest))) : W p l e R s m args below meth c H locs cells slots Q (F0 m pc ls st0) := by
  intro T hT X
  obtain ⟨v, st₀, t, T', L, h0, X', hL, e1, e2, ⟨⟨v', u, hv, hp, hb⟩, hF⟩, st⟩ := hr T hT X
  cases hv
  obtain ⟨k1, k2, k3⟩ := vx_keep h0 e1 hS hA hf hL hF
  obtain ⟨t2, a1, b1⟩ := kk v u t T'.heap (locs ++ L) e1.symm (by rw [← e2]; exact X'.warmed.alike) hp hb k1 k2 k3 T' rfl X'
  exact ⟨t2, st t2 a1, b1⟩
theorem g_xcall {H : Heap} {locs : List Loc} {cells slots mc ms : Nat} {ls : Array Slot} {st0 rest : List Value} {post : Option Value → HS → Prop} {px : String → HS → Prop} {A0 A1 free : Nat → Prop} {H0 : Heap} {a : Array Value} (hr : vx_Run p l e R s m args below meth c H locs cells slots mc ms (F0 m pc ls st0) rest (gQ post G A1 a) (gX px G A1) free) (hS : va_S A0 H0 H locs) (hA : ∀ q, q < H.size → A1 q → A0 q) (hf : ∀ q, free q → A0 q)
    (kx : ∀ (E : String) (ce : Cell) (q9 : Addr) (u : HS) (t : State) (H1 : Heap) (locs1 : List Loc), t.heap = H1 → s.vm.Alike t.vm → px E u → wE G A1 u t → H.size ≤ H1.size → (∀ q : Nat, q < H.size → ¬ A1 q → H1[q]? = H[q]?) → va_S A0 H0 H1 locs1 → H1[q9]? = some ce → ce.vm = .none → s.vm.findClass E = some ce.cls → vx_W p l e R s m args below meth c H1 locs1 (cells + mc) (slots + ms) Q (F0 m pc ls rest) q9)
    (kk : ∀ (v : Option Value) (u : HS) (t : State) (H1 : Heap) (locs1 : List Loc), t.heap = H1 → s.vm.Alike t.vm → post v u → wE G A1 u t → H.size ≤ H1.size → (∀ q : Nat, q < H.size → ¬ A1 q → H1[q]? = H[q]?) → va_S A0 H0 H1 locs1 → W p l e R s m args below meth c H1 locs1 (cells + mc) (slots + ms) Q (F0 m (pc + 3) ls (v.toList ++ rest))) : W p l e R s m args below meth c H locs cells slots Q (F0 m pc ls st0) := by
  intro T hT X
  rcases hr T hT X with ⟨v, st₀, t, T', L, h0, X', hL, e1, e2, ⟨⟨v', u, hv, hp, hb⟩, hF⟩, st⟩ | ⟨q, st₀, t, T', L, E, ce, h0, X', hL, e1, e2, ⟨u, -, ⟨hp, hb⟩, hF⟩, hce, hcv, hcl, st⟩
  · cases hv
    obtain ⟨k1, k2, k3⟩ := vx_keep h0 e1 hS hA hf hL hF
    obtain ⟨t2, a1, b1⟩ := kk v u t T'.heap (locs ++ L) e1.symm (by rw [← e2]; exact X'.warmed.alike) hp hb k1 k2 k3 T' rfl X'
    exact ⟨t2, st t2 a1, b1⟩
  · obtain ⟨k1, k2, k3⟩ := vx_keep h0 e1 hS hA hf hL hF
    obtain ⟨t2, a1, b1⟩ := kx E ce q u t T'.heap (locs ++ L) e1.symm (by rw [← e2]; exact X'.warmed.alike) hp hb k1 k2 k3 (by rw [e1]; exact hce) hcv hcl T' rfl X'
    exact ⟨t2, st.trans a1, b1⟩
/-- what links a call: of an instance's method, of a static one, of a constructor -/
def ML (own : String) (idx : Nat) (y : MethodName) (cb : ByteArray) (maxL : Nat) (ret : Option FieldType) (nargs : Nat) : Prop :=
  Cond.methodLink own idx y ∈ wsG ∧ Cond.initialized y.cls ∈ wsG ∧ Cond.code y cb maxL ret ∈ wsG ∧ (y.cls ≠ "java/lang/invoke/MethodHandle" ∧ y.cls ≠ "java/lang/invoke/VarHandle" ∧ (parseMethodDescriptor y.desc).map (fun d => d.parameters.length) = some nargs)
theorem goodG {w : Cond} (hw : w ∈ wsG) : GoodIn wsG (w :: wsG) := fun v hv => by
  have h : v ∈ wsG := by
    rcases List.mem_cons.mp hv with rfl | h
    · exact hw
    · exact h
  exact ⟨h, good_of_word (wsG_good h)⟩
theorem ML.callB {idx : Nat} {y : MethodName} {cb : ByteArray} {maxL : Nat} {ret : Option FieldType} {nargs d mc ms : Nat} (C : Cx p l e R s m args below meth c cc nL own G A) (hL : ML own idx y cb maxL ret nargs) (hfr : d + 1 ≤ R.frames) (hlo : 8 + (maxL + 11) + 40 * d ≤ R.locals) : CallB R s args own idx y cb maxL ret (.code y cb maxL ret :: wsG) (rmD d mc ms) mc ms nargs :=
  callB_of nargs C.2.2.2.2.1 (goodG hL.2.2.1) rfl rfl rfl (C.2.2.2.2.1 _ hL.2.1) (C.2.2.2.2.1 _ hL.1) hL.2.2.2 ⟨hfr, hlo⟩
theorem Cx.pre (C : Cx p l e R s m args below meth c cc nL own G A) {H : Heap} {locs : List Loc} (hW : Wd G A S H) (hS : va_S A s.heap H locs) (av : List Value) : PreS s H (va_Pc av (wB G S H.size)) av := by
  have hAd : ∀ q, dA S H.size q → A q := fun q h => by
    rcases h with h | h
    · exact (hW.dom h).1
    · exact C.2.2.2.2.2.2.2.2 q (Nat.le_trans hS.1 h)
  refine ⟨wB.blind G S H.size av, fun U hU hWm => ⟨rfl, by rw [hU], by rw [hU]; exact hW.weaken (fun q h => Or.inl h), gK.moved hWm.alike C.2.2.2.2.2.2.1, ?_⟩⟩
  rw [hU]
  exact gE.moved hWm ((C.2.2.2.2.2.2.2.1.kept hS.2.1).narrow hAd)
theorem Cx.fr (C : Cx p l e R s m args below meth c cc nL own G A) {H : Heap} {locs : List Loc} (hW : Wd G A S H) (hS : va_S A s.heap H locs) : ∀ q, dA S H.size q → A q := fun q h => by
  rcases h with h | h
  · exact (hW.dom h).1
  · exact C.2.2.2.2.2.2.2.2 q (Nat.le_trans hS.1 h)
theorem Cx.fix (C : Cx p l e R s m args below meth c cc nL own G A) : CallFix p m c cc nL s args wsG own := ⟨C.1, C.2.1, C.2.2.1, C.2.2.2.1, C.2.2.2.2.1⟩
theorem Cx.recv (C : Cx p l e R s m args below meth c cc nL own G A) {H : Heap} (hW : Wd G A S H) {b kd : Nat} {C0 : String} (hk : hK S b = kd) (h0 : 0 < kd ∧ kd < 7) (hoc : (vwCl[kd + 1]?).map Prod.fst = some C0) : ∃ cellB : Cell, H[b]? = some cellB ∧ cellB.vm.isStatics = false ∧ s.vm.findClass C0 = some cellB.cls := by
  obtain ⟨ws, hP, hD, hL⟩ := id hW
  obtain ⟨q0, hq⟩ := (hL b _).mp (cE_obj hk h0.1 h0.2)
  cases hr : vwCl[kd + 1]? with
  | none => rw [hr] at hoc; cases hoc
  | some r =>
    rw [hr] at hoc
    have e0 : r.1 = C0 := Option.some.inj hoc
    have h := va_recv C.2.2.2.2.2.2.1.1 hP hr hq
    rw [e0] at h
    exact h
theorem v_callV (C : Cx p l e R s m args below meth c cc nL own G A) {idx : Nat} {y : MethodName} {cb : ByteArray} {maxL : Nat} {ret : Option FieldType} {nargs d mc ms : Nat} {post : Option Value → HS → Prop} {as : List Value} {b : Nat} {kd : Nat} (hM : cM l y cb maxL ret d (.ref b :: as) S post mc ms) (hL : ML own idx y cb maxL ret nargs) (hL2 : Cond.instanceMethod y ∈ wsG ∧ Cond.selects y.cls y y ∈ wsG) (hk : hK S b = kd) (h07 : 0 < kd ∧ kd < 7) (hoc : (vwCl[kd + 1]?).map Prod.fst = some y.cls) (hn : as.length = nargs) (hst : (st.map fun v => v.category).sum ≤ 8) (hfr : d + 1 ≤ R.frames) (hlo : 8 + (maxL + 11) + 40 * d ≤ R.locals) (hcl : k + mc ≤ R.cells) (hsl : n + ms ≤ R.slots) (hd : decode cc pc = .ok (.invokevirtual idx, 3)) (kk : ∀ (v : Option Value) (u : HS), post v u → V p l e R s m args below meth c nL G A (u) (k + mc) (n + ms) Q (pc + 3) (lv) (v.toList ++ st)) (st0 : List Value) (hst0 : st0 = as.reverse ++ .ref b :: st) : V p l e R s m args below meth c nL G A (S) (k) (n) Q (pc) (lv) (st0) := by
  intro H locs ls hW hS hv
  subst hst0
  have hfr9 := C.fr hW hS
  have hkp : ∀ (u : HS) (t : State) (H1 : Heap), t.heap = H1 → wE G (dA S H.size) u t → Wd G A u H1 := fun u t H1 ht hB => by
    subst ht
    exact hB.1.weaken (fun q hq => hfr9 q (hB.1.dom hq).1)
  exact g_call (va_runV (As := as) (rest := st) C.fix (hM G H.size) ⟨hL.callB C hfr hlo, C.2.2.2.2.1 _ hL2.1, C.2.2.2.2.1 _ hL2.2⟩ ⟨wB.blind G S H.size _, C.recv hW hk h07 hoc, (C.pre hW hS (.ref b :: as)).2⟩ rfl hn hv.1 rfl (lv_room hst) hd ⟨hcl, hsl⟩) hS (fun q _ h => hfr9 q h) hfr9 (fun v u t H1 locs1 ht _ hp hB _ _ hS1 => kk v u hp H1 locs1 ls (hkp u t H1 ht hB) hS1 hv)
theorem v_xcallV (C : Cx p l e R s m args below meth c cc nL own G A) {idx : Nat} {y : MethodName} {cb : ByteArray} {maxL : Nat} {ret : Option FieldType} {nargs d mc ms : Nat} {post : Option Value → HS → Prop} {px : String → HS → Prop} {as : List Value} {b : Nat} {kd : Nat} (hM : cX l y cb maxL ret d (.ref b :: as) S post px mc ms) (hL : ML own idx y cb maxL ret nargs) (hL2 : Cond.instanceMethod y ∈ wsG ∧ Cond.selects y.cls y y ∈ wsG) (hk : hK S b = kd) (h07 : 0 < kd ∧ kd < 7) (hoc : (vwCl[kd + 1]?).map Prod.fst = some y.cls) (hn : as.length = nargs) (hst : (st.map fun v => v.category).sum ≤ 8) (hfr : d + 1 ≤ R.frames) (hlo : 8 + (maxL + 11) + 40 * d ≤ R.locals) (hcl : k + mc ≤ R.cells) (hsl : n + ms ≤ R.slots) (hd : decode cc pc = .ok (.invokevirtual idx, 3)) (kx : ∀ (E : String) (u : HS), px E u → VX p l e R s m args below meth c nL G A u (k + mc) (n + ms) Q pc lv st E) (kk : ∀ (v : Option Value) (u : HS), post v u → V p l e R s m args below meth c nL G A (u) (k + mc) (n + ms) Q (pc + 3) (lv) (v.toList ++ st)) (st0 : List Value) (hst0 : st0 = as.reverse ++ .ref b :: st) : V p l e R s m args below meth c nL G A (S) (k) (n) Q (pc) (lv) (st0) := by
  intro H locs ls hW hS hv
  subst hst0
  have hfr9 := C.fr hW hS
  have hkp : ∀ (u : HS) (t : State) (H1 : Heap), t.heap = H1 → wE G (dA S H.size) u t → Wd G A u H1 := fun u t H1 ht hB => by
    subst ht
    exact hB.1.weaken (fun q hq => hfr9 q (hB.1.dom hq).1)
  refine g_xcall (vx_runV (As := as) (rest := st) C.fix (hM G H.size) ⟨hL.callB C hfr hlo, C.2.2.2.2.1 _ hL2.1, C.2.2.2.2.1 _ hL2.2⟩ ⟨wB.blind G S H.size _, C.recv hW hk h07 hoc, (C.pre hW hS (.ref b :: as)).2⟩ rfl hn hv.1 rfl (lv_room hst) hd ⟨hcl, hsl⟩) hS (fun q _ h => hfr9 q h) hfr9 (fun E ce q9 u t H1 locs1 ht _ hp hB _ _ hS1 hce hcv hcl9 => kx E u hp H1 locs1 ls q9 ce (hkp u t H1 ht hB) hS1 hv hce hcv hcl9) (fun v u t H1 locs1 ht _ hp hB _ _ hS1 => kk v u hp H1 locs1 ls (hkp u t H1 ht hB) hS1 hv)
theorem v_callS (C : Cx p l e R s m args below meth c cc nL own G A) {idx : Nat} {y : MethodName} {cb : ByteArray} {maxL : Nat} {ret : Option FieldType} {nargs d mc ms : Nat} {post : Option Value → HS → Prop} {as : List Value} (hM : cM l y cb maxL ret d as S post mc ms) (hL : ML own idx y cb maxL ret nargs) (hL2 : Cond.static y ∈ wsG) (hn : as.length = nargs) (hst : (st.map fun v => v.category).sum ≤ 8) (hfr : d + 1 ≤ R.frames) (hlo : 8 + (maxL + 11) + 40 * d ≤ R.locals) (hcl : k + mc ≤ R.cells) (hsl : n + ms ≤ R.slots) (hd : decode cc pc = .ok (.invokestatic idx, 3)) (kk : ∀ (v : Option Value) (u : HS), post v u → V p l e R s m args below meth c nL G A (u) (k + mc) (n + ms) Q (pc + 3) (lv) (v.toList ++ st)) (st0 : List Value) (hst0 : st0 = as.reverse ++ st) : V p l e R s m args below meth c nL G A (S) (k) (n) Q (pc) (lv) (st0) := by
  intro H locs ls hW hS hv
  subst hst0
  have hfr9 := C.fr hW hS
  have hkp : ∀ (u : HS) (t : State) (H1 : Heap), t.heap = H1 → wE G (dA S H.size) u t → Wd G A u H1 := fun u t H1 ht hB => by
    subst ht
    exact hB.1.weaken (fun q hq => hfr9 q (hB.1.dom hq).1)
  exact g_call (va_runS (As := as) (rest := st) C.fix (hM G H.size) ⟨hL.callB C hfr hlo, C.2.2.2.2.1 _ hL2⟩ (C.pre hW hS as) rfl hn hv.1 rfl (lv_room hst) hd ⟨hcl, hsl⟩) hS (fun q _ h => hfr9 q h) hfr9 (fun v u t H1 locs1 ht _ hp hB _ _ hS1 => kk v u hp H1 locs1 ls (hkp u t H1 ht hB) hS1 hv)
theorem v_xcallS (C : Cx p l e R s m args below meth c cc nL own G A) {idx : Nat} {y : MethodName} {cb : ByteArray} {maxL : Nat} {ret : Option FieldType} {nargs d mc ms : Nat} {post : Option Value → HS → Prop} {px : String → HS → Prop} {as : List Value} (hM : cX l y cb maxL ret d as S post px mc ms) (hL : ML own idx y cb maxL ret nargs) (hL2 : Cond.static y ∈ wsG) (hn : as.length = nargs) (hst : (st.map fun v => v.category).sum ≤ 8) (hfr : d + 1 ≤ R.frames) (hlo : 8 + (maxL + 11) + 40 * d ≤ R.locals) (hcl : k + mc ≤ R.cells) (hsl : n + ms ≤ R.slots) (hd : decode cc pc = .ok (.invokestatic idx, 3)) (kx : ∀ (E : String) (u : HS), px E u → VX p l e R s m args below meth c nL G A u (k + mc) (n + ms) Q pc lv st E) (kk : ∀ (v : Option Value) (u : HS), post v u → V p l e R s m args below meth c nL G A (u) (k + mc) (n + ms) Q (pc + 3) (lv) (v.toList ++ st)) (st0 : List Value) (hst0 : st0 = as.reverse ++ st) : V p l e R s m args below meth c nL G A (S) (k) (n) Q (pc) (lv) (st0) := by
  intro H locs ls hW hS hv
  subst hst0
  have hfr9 := C.fr hW hS
  have hkp : ∀ (u : HS) (t : State) (H1 : Heap), t.heap = H1 → wE G (dA S H.size) u t → Wd G A u H1 := fun u t H1 ht hB => by
    subst ht
    exact hB.1.weaken (fun q hq => hfr9 q (hB.1.dom hq).1)
  refine g_xcall (vx_runS (As := as) (rest := st) C.fix (hM G H.size) ⟨hL.callB C hfr hlo, C.2.2.2.2.1 _ hL2⟩ (C.pre hW hS as) rfl hn hv.1 rfl (lv_room hst) hd ⟨hcl, hsl⟩) hS (fun q _ h => hfr9 q h) hfr9 (fun E ce q9 u t H1 locs1 ht _ hp hB _ _ hS1 hce hcv hcl9 => kx E u hp H1 locs1 ls q9 ce (hkp u t H1 ht hB) hS1 hv hce hcv hcl9) (fun v u t H1 locs1 ht _ hp hB _ _ hS1 => kk v u hp H1 locs1 ls (hkp u t H1 ht hB) hS1 hv)
theorem v_callVi (C : Cx p l e R s m args below meth c cc nL own G A) {idx : Nat} {y : MethodName} {cb : ByteArray} {maxL : Nat} {ret : Option FieldType} {nargs d mc ms : Nat} {f : Int32 → HS → Prop} (as : List Value) {b kd : Nat} (hM : cM l y cb maxL ret d (.ref b :: as) S (pI f) mc ms) (hL : ML own idx y cb maxL ret nargs) (hL2 : Cond.instanceMethod y ∈ wsG ∧ Cond.selects y.cls y y ∈ wsG) (hk : hK S b = kd) (h07 : 0 < kd ∧ kd < 7) (hoc : (vwCl[kd + 1]?).map Prod.fst = some y.cls) (hn : as.length = nargs) (hst : (st.map fun v => v.category).sum ≤ 8) (hfr : d + 1 ≤ R.frames) (hlo : 8 + (maxL + 11) + 40 * d ≤ R.locals) (hcl : k + mc ≤ R.cells) (hsl : n + ms ≤ R.slots) (hd : decode cc pc = .ok (.invokevirtual idx, 3)) (kk : ∀ (r : Int32) (u : HS), f r u → V p l e R s m args below meth c nL G A (u) (k + mc) (n + ms) Q (pc + 3) (lv) (.int r :: st)) (st0 : List Value) (hst0 : st0 = as.reverse ++ .ref b :: st) : V p l e R s m args below meth c nL G A (S) (k) (n) Q (pc) (lv) (st0) := v_callV C hM hL hL2 hk h07 hoc hn hst hfr hlo hcl hsl hd (fun v u h => by
  obtain ⟨r, rfl, h⟩ := h
  exact kk r u h) st0 hst0
theorem v_callVl (C : Cx p l e R s m args below meth c cc nL own G A) {idx : Nat} {y : MethodName} {cb : ByteArray} {maxL : Nat} {ret : Option FieldType} {nargs d mc ms : Nat} {f : Int64 → HS → Prop} (as : List Value) {b kd : Nat} (hM : cM l y cb maxL ret d (.ref b :: as) S (pL f) mc ms) (hL : ML own idx y cb maxL ret nargs) (hL2 : Cond.instanceMethod y ∈ wsG ∧ Cond.selects y.cls y y ∈ wsG) (hk : hK S b = kd) (h07 : 0 < kd ∧ kd < 7) (hoc : (vwCl[kd + 1]?).map Prod.fst = some y.cls) (hn : as.length = nargs) (hst : (st.map fun v => v.category).sum ≤ 8) (hfr : d + 1 ≤ R.frames) (hlo : 8 + (maxL + 11) + 40 * d ≤ R.locals) (hcl : k + mc ≤ R.cells) (hsl : n + ms ≤ R.slots) (hd : decode cc pc = .ok (.invokevirtual idx, 3)) (kk : ∀ (r : Int64) (u : HS), f r u → V p l e R s m args below meth c nL G A (u) (k + mc) (n + ms) Q (pc + 3) (lv) (.long r :: st)) (st0 : List Value) (hst0 : st0 = as.reverse ++ .ref b :: st) : V p l e R s m args below meth c nL G A (S) (k) (n) Q (pc) (lv) (st0) := v_callV C hM hL hL2 hk h07 hoc hn hst hfr hlo hcl hsl hd (fun v u h => by
  obtain ⟨r, rfl, h⟩ := h
  exact kk r u h) st0 hst0
theorem v_callVf (C : Cx p l e R s m args below meth c cc nL own G A) {idx : Nat} {y : MethodName} {cb : ByteArray} {maxL : Nat} {ret : Option FieldType} {nargs d mc ms : Nat} {f : UInt32 → HS → Prop} (as : List Value) {b kd : Nat} (hM : cM l y cb maxL ret d (.ref b :: as) S (pF f) mc ms) (hL : ML own idx y cb maxL ret nargs) (hL2 : Cond.instanceMethod y ∈ wsG ∧ Cond.selects y.cls y y ∈ wsG) (hk : hK S b = kd) (h07 : 0 < kd ∧ kd < 7) (hoc : (vwCl[kd + 1]?).map Prod.fst = some y.cls) (hn : as.length = nargs) (hst : (st.map fun v => v.category).sum ≤ 8) (hfr : d + 1 ≤ R.frames) (hlo : 8 + (maxL + 11) + 40 * d ≤ R.locals) (hcl : k + mc ≤ R.cells) (hsl : n + ms ≤ R.slots) (hd : decode cc pc = .ok (.invokevirtual idx, 3)) (kk : ∀ (r : UInt32) (u : HS), f r u → V p l e R s m args below meth c nL G A (u) (k + mc) (n + ms) Q (pc + 3) (lv) (.float r :: st)) (st0 : List Value) (hst0 : st0 = as.reverse ++ .ref b :: st) : V p l e R s m args below meth c nL G A (S) (k) (n) Q (pc) (lv) (st0) := v_callV C hM hL hL2 hk h07 hoc hn hst hfr hlo hcl hsl hd (fun v u h => by
  obtain ⟨r, rfl, h⟩ := h
  exact kk r u h) st0 hst0
theorem v_callVd (C : Cx p l e R s m args below meth c cc nL own G A) {idx : Nat} {y : MethodName} {cb : ByteArray} {maxL : Nat} {ret : Option FieldType} {nargs d mc ms : Nat} {f : UInt64 → HS → Prop} (as : List Value) {b kd : Nat} (hM : cM l y cb maxL ret d (.ref b :: as) S (pD f) mc ms) (hL : ML own idx y cb maxL ret nargs) (hL2 : Cond.instanceMethod y ∈ wsG ∧ Cond.selects y.cls y y ∈ wsG) (hk : hK S b = kd) (h07 : 0 < kd ∧ kd < 7) (hoc : (vwCl[kd + 1]?).map Prod.fst = some y.cls) (hn : as.length = nargs) (hst : (st.map fun v => v.category).sum ≤ 8) (hfr : d + 1 ≤ R.frames) (hlo : 8 + (maxL + 11) + 40 * d ≤ R.locals) (hcl : k + mc ≤ R.cells) (hsl : n + ms ≤ R.slots) (hd : decode cc pc = .ok (.invokevirtual idx, 3)) (kk : ∀ (r : UInt64) (u : HS), f r u → V p l e R s m args below meth c nL G A (u) (k + mc) (n + ms) Q (pc + 3) (lv) (.double r :: st)) (st0 : List Value) (hst0 : st0 = as.reverse ++ .ref b :: st) : V p l e R s m args below meth c nL G A (S) (k) (n) Q (pc) (lv) (st0) := v_callV C hM hL hL2 hk h07 hoc hn hst hfr hlo hcl hsl hd (fun v u h => by
  obtain ⟨r, rfl, h⟩ := h
  exact kk r u h) st0 hst0
theorem v_callVq (C : Cx p l e R s m args below meth c cc nL own G A) {idx : Nat} {y : MethodName} {cb : ByteArray} {maxL : Nat} {ret : Option FieldType} {nargs d mc ms : Nat} {f : Option Nat → HS → Prop} (as : List Value) {b kd : Nat} (hM : cM l y cb maxL ret d (.ref b :: as) S (pQ f) mc ms) (hL : ML own idx y cb maxL ret nargs) (hL2 : Cond.instanceMethod y ∈ wsG ∧ Cond.selects y.cls y y ∈ wsG) (hk : hK S b = kd) (h07 : 0 < kd ∧ kd < 7) (hoc : (vwCl[kd + 1]?).map Prod.fst = some y.cls) (hn : as.length = nargs) (hst : (st.map fun v => v.category).sum ≤ 8) (hfr : d + 1 ≤ R.frames) (hlo : 8 + (maxL + 11) + 40 * d ≤ R.locals) (hcl : k + mc ≤ R.cells) (hsl : n + ms ≤ R.slots) (hd : decode cc pc = .ok (.invokevirtual idx, 3)) (kk : ∀ (r : Option Nat) (u : HS), f r u → V p l e R s m args below meth c nL G A (u) (k + mc) (n + ms) Q (pc + 3) (lv) (va_rf r :: st)) (st0 : List Value) (hst0 : st0 = as.reverse ++ .ref b :: st) : V p l e R s m args below meth c nL G A (S) (k) (n) Q (pc) (lv) (st0) := v_callV C hM hL hL2 hk h07 hoc hn hst hfr hlo hcl hsl hd (fun v u h => by
  obtain ⟨r, rfl, h⟩ := h
  exact kk r u h) st0 hst0
theorem v_callVv (C : Cx p l e R s m args below meth c cc nL own G A) {idx : Nat} {y : MethodName} {cb : ByteArray} {maxL : Nat} {ret : Option FieldType} {nargs d mc ms : Nat} {f : HS → Prop} (as : List Value) {b kd : Nat} (hM : cM l y cb maxL ret d (.ref b :: as) S (pV f) mc ms) (hL : ML own idx y cb maxL ret nargs) (hL2 : Cond.instanceMethod y ∈ wsG ∧ Cond.selects y.cls y y ∈ wsG) (hk : hK S b = kd) (h07 : 0 < kd ∧ kd < 7) (hoc : (vwCl[kd + 1]?).map Prod.fst = some y.cls) (hn : as.length = nargs) (hst : (st.map fun v => v.category).sum ≤ 8) (hfr : d + 1 ≤ R.frames) (hlo : 8 + (maxL + 11) + 40 * d ≤ R.locals) (hcl : k + mc ≤ R.cells) (hsl : n + ms ≤ R.slots) (hd : decode cc pc = .ok (.invokevirtual idx, 3)) (kk : ∀ u : HS, f u → V p l e R s m args below meth c nL G A (u) (k + mc) (n + ms) Q (pc + 3) (lv) (st)) (st0 : List Value) (hst0 : st0 = as.reverse ++ .ref b :: st) : V p l e R s m args below meth c nL G A (S) (k) (n) Q (pc) (lv) (st0) := v_callV C hM hL hL2 hk h07 hoc hn hst hfr hlo hcl hsl hd (fun v u h => by
  obtain ⟨rfl, h⟩ := h
  exact kk u h) st0 hst0
theorem v_callSi (C : Cx p l e R s m args below meth c cc nL own G A) {idx : Nat} {y : MethodName} {cb : ByteArray} {maxL : Nat} {ret : Option FieldType} {nargs d mc ms : Nat} {f : Int32 → HS → Prop} (as : List Value) (hM : cM l y cb maxL ret d as S (pI f) mc ms) (hL : ML own idx y cb maxL ret nargs) (hL2 : Cond.static y ∈ wsG) (hn : as.length = nargs) (hst : (st.map fun v => v.category).sum ≤ 8) (hfr : d + 1 ≤ R.frames) (hlo : 8 + (maxL + 11) + 40 * d ≤ R.locals) (hcl : k + mc ≤ R.cells) (hsl : n + ms ≤ R.slots) (hd : decode cc pc = .ok (.invokestatic idx, 3)) (kk : ∀ (r : Int32) (u : HS), f r u → V p l e R s m args below meth c nL G A (u) (k + mc) (n + ms) Q (pc + 3) (lv) (.int r :: st)) (st0 : List Value) (hst0 : st0 = as.reverse ++ st) : V p l e R s m args below meth c nL G A (S) (k) (n) Q (pc) (lv) (st0) := v_callS C hM hL hL2 hn hst hfr hlo hcl hsl hd (fun v u h => by
  obtain ⟨r, rfl, h⟩ := h
  exact kk r u h) st0 hst0
theorem v_callSl (C : Cx p l e R s m args below meth c cc nL own G A) {idx : Nat} {y : MethodName} {cb : ByteArray} {maxL : Nat} {ret : Option FieldType} {nargs d mc ms : Nat} {f : Int64 → HS → Prop} (as : List Value) (hM : cM l y cb maxL ret d as S (pL f) mc ms) (hL : ML own idx y cb maxL ret nargs) (hL2 : Cond.static y ∈ wsG) (hn : as.length = nargs) (hst : (st.map fun v => v.category).sum ≤ 8) (hfr : d + 1 ≤ R.frames) (hlo : 8 + (maxL + 11) + 40 * d ≤ R.locals) (hcl : k + mc ≤ R.cells) (hsl : n + ms ≤ R.slots) (hd : decode cc pc = .ok (.invokestatic idx, 3)) (kk : ∀ (r : Int64) (u : HS), f r u → V p l e R s m args below meth c nL G A (u) (k + mc) (n + ms) Q (pc + 3) (lv) (.long r :: st)) (st0 : List Value) (hst0 : st0 = as.reverse ++ st) : V p l e R s m args below meth c nL G A (S) (k) (n) Q (pc) (lv) (st0) := v_callS C hM hL hL2 hn hst hfr hlo hcl hsl hd (fun v u h => by
  obtain ⟨r, rfl, h⟩ := h
  exact kk r u h) st0 hst0
theorem v_callSf (C : Cx p l e R s m args below meth c cc nL own G A) {idx : Nat} {y : MethodName} {cb : ByteArray} {maxL : Nat} {ret : Option FieldType} {nargs d mc ms : Nat} {f : UInt32 → HS → Prop} (as : List Value) (hM : cM l y cb maxL ret d as S (pF f) mc ms) (hL : ML own idx y cb maxL ret nargs) (hL2 : Cond.static y ∈ wsG) (hn : as.length = nargs) (hst : (st.map fun v => v.category).sum ≤ 8) (hfr : d + 1 ≤ R.frames) (hlo : 8 + (maxL + 11) + 40 * d ≤ R.locals) (hcl : k + mc ≤ R.cells) (hsl : n + ms ≤ R.slots) (hd : decode cc pc = .ok (.invokestatic idx, 3)) (kk : ∀ (r : UInt32) (u : HS), f r u → V p l e R s m args below meth c nL G A (u) (k + mc) (n + ms) Q (pc + 3) (lv) (.float r :: st)) (st0 : List Value) (hst0 : st0 = as.reverse ++ st) : V p l e R s m args below meth c nL G A (S) (k) (n) Q (pc) (lv) (st0) := v_callS C hM hL hL2 hn hst hfr hlo hcl hsl hd (fun v u h => by
  obtain ⟨r, rfl, h⟩ := h
  exact kk r u h) st0 hst0
theorem v_callSd (C : Cx p l e R s m args below meth c cc nL own G A) {idx : Nat} {y : MethodName} {cb : ByteArray} {maxL : Nat} {ret : Option FieldType} {nargs d mc ms : Nat} {f : UInt64 → HS → Prop} (as : List Value) (hM : cM l y cb maxL ret d as S (pD f) mc ms) (hL : ML own idx y cb maxL ret nargs) (hL2 : Cond.static y ∈ wsG) (hn : as.length = nargs) (hst : (st.map fun v => v.category).sum ≤ 8) (hfr : d + 1 ≤ R.frames) (hlo : 8 + (maxL + 11) + 40 * d ≤ R.locals) (hcl : k + mc ≤ R.cells) (hsl : n + ms ≤ R.slots) (hd : decode cc pc = .ok (.invokestatic idx, 3)) (kk : ∀ (r : UInt64) (u : HS), f r u → V p l e R s m args below meth c nL G A (u) (k + mc) (n + ms) Q (pc + 3) (lv) (.double r :: st)) (st0 : List Value) (hst0 : st0 = as.reverse ++ st) : V p l e R s m args below meth c nL G A (S) (k) (n) Q (pc) (lv) (st0) := v_callS C hM hL hL2 hn hst hfr hlo hcl hsl hd (fun v u h => by
  obtain ⟨r, rfl, h⟩ := h
  exact kk r u h) st0 hst0
theorem v_callSq (C : Cx p l e R s m args below meth c cc nL own G A) {idx : Nat} {y : MethodName} {cb : ByteArray} {maxL : Nat} {ret : Option FieldType} {nargs d mc ms : Nat} {f : Option Nat → HS → Prop} (as : List Value) (hM : cM l y cb maxL ret d as S (pQ f) mc ms) (hL : ML own idx y cb maxL ret nargs) (hL2 : Cond.static y ∈ wsG) (hn : as.length = nargs) (hst : (st.map fun v => v.category).sum ≤ 8) (hfr : d + 1 ≤ R.frames) (hlo : 8 + (maxL + 11) + 40 * d ≤ R.locals) (hcl : k + mc ≤ R.cells) (hsl : n + ms ≤ R.slots) (hd : decode cc pc = .ok (.invokestatic idx, 3)) (kk : ∀ (r : Option Nat) (u : HS), f r u → V p l e R s m args below meth c nL G A (u) (k + mc) (n + ms) Q (pc + 3) (lv) (va_rf r :: st)) (st0 : List Value) (hst0 : st0 = as.reverse ++ st) : V p l e R s m args below meth c nL G A (S) (k) (n) Q (pc) (lv) (st0) := v_callS C hM hL hL2 hn hst hfr hlo hcl hsl hd (fun v u h => by
  obtain ⟨r, rfl, h⟩ := h
  exact kk r u h) st0 hst0
theorem v_callSv (C : Cx p l e R s m args below meth c cc nL own G A) {idx : Nat} {y : MethodName} {cb : ByteArray} {maxL : Nat} {ret : Option FieldType} {nargs d mc ms : Nat} {f : HS → Prop} (as : List Value) (hM : cM l y cb maxL ret d as S (pV f) mc ms) (hL : ML own idx y cb maxL ret nargs) (hL2 : Cond.static y ∈ wsG) (hn : as.length = nargs) (hst : (st.map fun v => v.category).sum ≤ 8) (hfr : d + 1 ≤ R.frames) (hlo : 8 + (maxL + 11) + 40 * d ≤ R.locals) (hcl : k + mc ≤ R.cells) (hsl : n + ms ≤ R.slots) (hd : decode cc pc = .ok (.invokestatic idx, 3)) (kk : ∀ u : HS, f u → V p l e R s m args below meth c nL G A (u) (k + mc) (n + ms) Q (pc + 3) (lv) (st)) (st0 : List Value) (hst0 : st0 = as.reverse ++ st) : V p l e R s m args below meth c nL G A (S) (k) (n) Q (pc) (lv) (st0) := v_callS C hM hL hL2 hn hst hfr hlo hcl hsl hd (fun v u h => by
  obtain ⟨rfl, h⟩ := h
  exact kk u h) st0 hst0
theorem v_xcallVi (C : Cx p l e R s m args below meth c cc nL own G A) {idx : Nat} {y : MethodName} {cb : ByteArray} {maxL : Nat} {ret : Option FieldType} {nargs d mc ms : Nat} {f : Int32 → HS → Prop} {px : String → HS → Prop} (as : List Value) {b kd : Nat} (hM : cX l y cb maxL ret d (.ref b :: as) S (pI f) px mc ms) (hL : ML own idx y cb maxL ret nargs) (hL2 : Cond.instanceMethod y ∈ wsG ∧ Cond.selects y.cls y y ∈ wsG) (hk : hK S b = kd) (h07 : 0 < kd ∧ kd < 7) (hoc : (vwCl[kd + 1]?).map Prod.fst = some y.cls) (hn : as.length = nargs) (hst : (st.map fun v => v.category).sum ≤ 8) (hfr : d + 1 ≤ R.frames) (hlo : 8 + (maxL + 11) + 40 * d ≤ R.locals) (hcl : k + mc ≤ R.cells) (hsl : n + ms ≤ R.slots) (hd : decode cc pc = .ok (.invokevirtual idx, 3)) (kx : ∀ (E : String) (u : HS), px E u → VX p l e R s m args below meth c nL G A u (k + mc) (n + ms) Q pc lv st E) (kk : ∀ (r : Int32) (u : HS), f r u → V p l e R s m args below meth c nL G A (u) (k + mc) (n + ms) Q (pc + 3) (lv) (.int r :: st)) (st0 : List Value) (hst0 : st0 = as.reverse ++ .ref b :: st) : V p l e R s m args below meth c nL G A (S) (k) (n) Q (pc) (lv) (st0) := v_xcallV C hM hL hL2 hk h07 hoc hn hst hfr hlo hcl hsl hd kx (fun v u h => by
  obtain ⟨r, rfl, h⟩ := h
  exact kk r u h) st0 hst0
theorem v_xcallVl (C : Cx p l e R s m args below meth c cc nL own G A) {idx : Nat} {y : MethodName} {cb : ByteArray} {maxL : Nat} {ret : Option FieldType} {nargs d mc ms : Nat} {f : Int64 → HS → Prop} {px : String → HS → Prop} (as : List Value) {b kd : Nat} (hM : cX l y cb maxL ret d (.ref b :: as) S (pL f) px mc ms) (hL : ML own idx y cb maxL ret nargs) (hL2 : Cond.instanceMethod y ∈ wsG ∧ Cond.selects y.cls y y ∈ wsG) (hk : hK S b = kd) (h07 : 0 < kd ∧ kd < 7) (hoc : (vwCl[kd + 1]?).map Prod.fst = some y.cls) (hn : as.length = nargs) (hst : (st.map fun v => v.category).sum ≤ 8) (hfr : d + 1 ≤ R.frames) (hlo : 8 + (maxL + 11) + 40 * d ≤ R.locals) (hcl : k + mc ≤ R.cells) (hsl : n + ms ≤ R.slots) (hd : decode cc pc = .ok (.invokevirtual idx, 3)) (kx : ∀ (E : String) (u : HS), px E u → VX p l e R s m args below meth c nL G A u (k + mc) (n + ms) Q pc lv st E) (kk : ∀ (r : Int64) (u : HS), f r u → V p l e R s m args below meth c nL G A (u) (k + mc) (n + ms) Q (pc + 3) (lv) (.long r :: st)) (st0 : List Value) (hst0 : st0 = as.reverse ++ .ref b :: st) : V p l e R s m args below meth c nL G A (S) (k) (n) Q (pc) (lv) (st0) := v_xcallV C hM hL hL2 hk h07 hoc hn hst hfr hlo hcl hsl hd kx (fun v u h => by
  obtain ⟨r, rfl, h⟩ := h
  exact kk r u h) st0 hst0
theorem v_xcallVf (C : Cx p l e R s m args below meth c cc nL own G A) {idx : Nat} {y : MethodName} {cb : ByteArray} {maxL : Nat} {ret : Option FieldType} {nargs d mc ms : Nat} {f : UInt32 → HS → Prop} {px : String → HS → Prop} (as : List Value) {b kd : Nat} (hM : cX l y cb maxL ret d (.ref b :: as) S (pF f) px mc ms) (hL : ML own idx y cb maxL ret nargs) (hL2 : Cond.instanceMethod y ∈ wsG ∧ Cond.selects y.cls y y ∈ wsG) (hk : hK S b = kd) (h07 : 0 < kd ∧ kd < 7) (hoc : (vwCl[kd + 1]?).map Prod.fst = some y.cls) (hn : as.length = nargs) (hst : (st.map fun v => v.category).sum ≤ 8) (hfr : d + 1 ≤ R.frames) (hlo : 8 + (maxL + 11) + 40 * d ≤ R.locals) (hcl : k + mc ≤ R.cells) (hsl : n + ms ≤ R.slots) (hd : decode cc pc = .ok (.invokevirtual idx, 3)) (kx : ∀ (E : String) (u : HS), px E u → VX p l e R s m args below meth c nL G A u (k + mc) (n + ms) Q pc lv st E) (kk : ∀ (r : UInt32) (u : HS), f r u → V p l e R s m args below meth c nL G A (u) (k + mc) (n + ms) Q (pc + 3) (lv) (.float r :: st)) (st0 : List Value) (hst0 : st0 = as.reverse ++ .ref b :: st) : V p l e R s m args below meth c nL G A (S) (k) (n) Q (pc) (lv) (st0) := v_xcallV C hM hL hL2 hk h07 hoc hn hst hfr hlo hcl hsl hd kx (fun v u h => by
  obtain ⟨r, rfl, h⟩ := h
  exact kk r u h) st0 hst0
theorem v_xcallVd (C : Cx p l e R s m args below meth c cc nL own G A) {idx : Nat} {y : MethodName} {cb : ByteArray} {maxL : Nat} {ret : Option FieldType} {nargs d mc ms : Nat} {f : UInt64 → HS → Prop} {px : String → HS → Prop} (as : List Value) {b kd : Nat} (hM : cX l y cb maxL ret d (.ref b :: as) S (pD f) px mc ms) (hL : ML own idx y cb maxL ret nargs) (hL2 : Cond.instanceMethod y ∈ wsG ∧ Cond.selects y.cls y y ∈ wsG) (hk : hK S b = kd) (h07 : 0 < kd ∧ kd < 7) (hoc : (vwCl[kd + 1]?).map Prod.fst = some y.cls) (hn : as.length = nargs) (hst : (st.map fun v => v.category).sum ≤ 8) (hfr : d + 1 ≤ R.frames) (hlo : 8 + (maxL + 11) + 40 * d ≤ R.locals) (hcl : k + mc ≤ R.cells) (hsl : n + ms ≤ R.slots) (hd : decode cc pc = .ok (.invokevirtual idx, 3)) (kx : ∀ (E : String) (u : HS), px E u → VX p l e R s m args below meth c nL G A u (k + mc) (n + ms) Q pc lv st E) (kk : ∀ (r : UInt64) (u : HS), f r u → V p l e R s m args below meth c nL G A (u) (k + mc) (n + ms) Q (pc + 3) (lv) (.double r :: st)) (st0 : List Value) (hst0 : st0 = as.reverse ++ .ref b :: st) : V p l e R s m args below meth c nL G A (S) (k) (n) Q (pc) (lv) (st0) := v_xcallV C hM hL hL2 hk h07 hoc hn hst hfr hlo hcl hsl hd kx (fun v u h => by
  obtain ⟨r, rfl, h⟩ := h
  exact kk r u h) st0 hst0
theorem v_xcallVq (C : Cx p l e R s m args below meth c cc nL own G A) {idx : Nat} {y : MethodName} {cb : ByteArray} {maxL : Nat} {ret : Option FieldType} {nargs d mc ms : Nat} {f : Option Nat → HS → Prop} {px : String → HS → Prop} (as : List Value) {b kd : Nat} (hM : cX l y cb maxL ret d (.ref b :: as) S (pQ f) px mc ms) (hL : ML own idx y cb maxL ret nargs) (hL2 : Cond.instanceMethod y ∈ wsG ∧ Cond.selects y.cls y y ∈ wsG) (hk : hK S b = kd) (h07 : 0 < kd ∧ kd < 7) (hoc : (vwCl[kd + 1]?).map Prod.fst = some y.cls) (hn : as.length = nargs) (hst : (st.map fun v => v.category).sum ≤ 8) (hfr : d + 1 ≤ R.frames) (hlo : 8 + (maxL + 11) + 40 * d ≤ R.locals) (hcl : k + mc ≤ R.cells) (hsl : n + ms ≤ R.slots) (hd : decode cc pc = .ok (.invokevirtual idx, 3)) (kx : ∀ (E : String) (u : HS), px E u → VX p l e R s m args below meth c nL G A u (k + mc) (n + ms) Q pc lv st E) (kk : ∀ (r : Option Nat) (u : HS), f r u → V p l e R s m args below meth c nL G A (u) (k + mc) (n + ms) Q (pc + 3) (lv) (va_rf r :: st)) (st0 : List Value) (hst0 : st0 = as.reverse ++ .ref b :: st) : V p l e R s m args below meth c nL G A (S) (k) (n) Q (pc) (lv) (st0) := v_xcallV C hM hL hL2 hk h07 hoc hn hst hfr hlo hcl hsl hd kx (fun v u h => by
  obtain ⟨r, rfl, h⟩ := h
  exact kk r u h) st0 hst0
theorem v_xcallVv (C : Cx p l e R s m args below meth c cc nL own G A) {idx : Nat} {y : MethodName} {cb : ByteArray} {maxL : Nat} {ret : Option FieldType} {nargs d mc ms : Nat} {f : HS → Prop} {px : String → HS → Prop} (as : List Value) {b kd : Nat} (hM : cX l y cb maxL ret d (.ref b :: as) S (pV f) px mc ms) (hL : ML own idx y cb maxL ret nargs) (hL2 : Cond.instanceMethod y ∈ wsG ∧ Cond.selects y.cls y y ∈ wsG) (hk : hK S b = kd) (h07 : 0 < kd ∧ kd < 7) (hoc : (vwCl[kd + 1]?).map Prod.fst = some y.cls) (hn : as.length = nargs) (hst : (st.map fun v => v.category).sum ≤ 8) (hfr : d + 1 ≤ R.frames) (hlo : 8 + (maxL + 11) + 40 * d ≤ R.locals) (hcl : k + mc ≤ R.cells) (hsl : n + ms ≤ R.slots) (hd : decode cc pc = .ok (.invokevirtual idx, 3)) (kx : ∀ (E : String) (u : HS), px E u → VX p l e R s m args below meth c nL G A u (k + mc) (n + ms) Q pc lv st E) (kk : ∀ u : HS, f u → V p l e R s m args below meth c nL G A (u) (k + mc) (n + ms) Q (pc + 3) (lv) (st)) (st0 : List Value) (hst0 : st0 = as.reverse ++ .ref b :: st) : V p l e R s m args below meth c nL G A (S) (k) (n) Q (pc) (lv) (st0) := v_xcallV C hM hL hL2 hk h07 hoc hn hst hfr hlo hcl hsl hd kx (fun v u h => by
  obtain ⟨rfl, h⟩ := h
  exact kk u h) st0 hst0
theorem v_xcallSi (C : Cx p l e R s m args below meth c cc nL own G A) {idx : Nat} {y : MethodName} {cb : ByteArray} {maxL : Nat} {ret : Option FieldType} {nargs d mc ms : Nat} {f : Int32 → HS → Prop} {px : String → HS → Prop} (as : List Value) (hM : cX l y cb maxL ret d as S (pI f) px mc ms) (hL : ML own idx y cb maxL ret nargs) (hL2 : Cond.static y ∈ wsG) (hn : as.length = nargs) (hst : (st.map fun v => v.category).sum ≤ 8) (hfr : d + 1 ≤ R.frames) (hlo : 8 + (maxL + 11) + 40 * d ≤ R.locals) (hcl : k + mc ≤ R.cells) (hsl : n + ms ≤ R.slots) (hd : decode cc pc = .ok (.invokestatic idx, 3)) (kx : ∀ (E : String) (u : HS), px E u → VX p l e R s m args below meth c nL G A u (k + mc) (n + ms) Q pc lv st E) (kk : ∀ (r : Int32) (u : HS), f r u → V p l e R s m args below meth c nL G A (u) (k + mc) (n + ms) Q (pc + 3) (lv) (.int r :: st)) (st0 : List Value) (hst0 : st0 = as.reverse ++ st) : V p l e R s m args below meth c nL G A (S) (k) (n) Q (pc) (lv) (st0) := v_xcallS C hM hL hL2 hn hst hfr hlo hcl hsl hd kx (fun v u h => by
  obtain ⟨r, rfl, h⟩ := h
  exact kk r u h) st0 hst0
theorem v_xcallSl (C : Cx p l e R s m args below meth c cc nL own G A) {idx : Nat} {y : MethodName} {cb : ByteArray} {maxL : Nat} {ret : Option FieldType} {nargs d mc ms : Nat} {f : Int64 → HS → Prop} {px : String → HS → Prop} (as : List Value) (hM : cX l y cb maxL ret d as S (pL f) px mc ms) (hL : ML own idx y cb maxL ret nargs) (hL2 : Cond.static y ∈ wsG) (hn : as.length = nargs) (hst : (st.map fun v => v.category).sum ≤ 8) (hfr : d + 1 ≤ R.frames) (hlo : 8 + (maxL + 11) + 40 * d ≤ R.locals) (hcl : k + mc ≤ R.cells) (hsl : n + ms ≤ R.slots) (hd : decode cc pc = .ok (.invokestatic idx, 3)) (kx : ∀ (E : String) (u : HS), px E u → VX p l e R s m args below meth c nL G A u (k + mc) (n + ms) Q pc lv st E) (kk : ∀ (r : Int64) (u : HS), f r u → V p l e R s m args below meth c nL G A (u) (k + mc) (n + ms) Q (pc + 3) (lv) (.long r :: st)) (st0 : List Value) (hst0 : st0 = as.reverse ++ st) : V p l e R s m args below meth c nL G A (S) (k) (n) Q (pc) (lv) (st0) := v_xcallS C hM hL hL2 hn hst hfr hlo hcl hsl hd kx (fun v u h => by
  obtain ⟨r, rfl, h⟩ := h
  exact kk r u h) st0 hst0
theorem v_xcallSf (C : Cx p l e R s m args below meth c cc nL own G A) {idx : Nat} {y : MethodName} {cb : ByteArray} {maxL : Nat} {ret : Option FieldType} {nargs d mc ms : Nat} {f : UInt32 → HS → Prop} {px : String → HS → Prop} (as : List Value) (hM : cX l y cb maxL ret d as S (pF f) px mc ms) (hL : ML own idx y cb maxL ret nargs) (hL2 : Cond.static y ∈ wsG) (hn : as.length = nargs) (hst : (st.map fun v => v.category).sum ≤ 8) (hfr : d + 1 ≤ R.frames) (hlo : 8 + (maxL + 11) + 40 * d ≤ R.locals) (hcl : k + mc ≤ R.cells) (hsl : n + ms ≤ R.slots) (hd : decode cc pc = .ok (.invokestatic idx, 3)) (kx : ∀ (E : String) (u : HS), px E u → VX p l e R s m args below meth c nL G A u (k + mc) (n + ms) Q pc lv st E) (kk : ∀ (r : UInt32) (u : HS), f r u → V p l e R s m args below meth c nL G A (u) (k + mc) (n + ms) Q (pc + 3) (lv) (.float r :: st)) (st0 : List Value) (hst0 : st0 = as.reverse ++ st) : V p l e R s m args below meth c nL G A (S) (k) (n) Q (pc) (lv) (st0) := v_xcallS C hM hL hL2 hn hst hfr hlo hcl hsl hd kx (fun v u h => by
  obtain ⟨r, rfl, h⟩ := h
  exact kk r u h) st0 hst0
theorem v_xcallSd (C : Cx p l e R s m args below meth c cc nL own G A) {idx : Nat} {y : MethodName} {cb : ByteArray} {maxL : Nat} {ret : Option FieldType} {nargs d mc ms : Nat} {f : UInt64 → HS → Prop} {px : String → HS → Prop} (as : List Value) (hM : cX l y cb maxL ret d as S (pD f) px mc ms) (hL : ML own idx y cb maxL ret nargs) (hL2 : Cond.static y ∈ wsG) (hn : as.length = nargs) (hst : (st.map fun v => v.category).sum ≤ 8) (hfr : d + 1 ≤ R.frames) (hlo : 8 + (maxL + 11) + 40 * d ≤ R.locals) (hcl : k + mc ≤ R.cells) (hsl : n + ms ≤ R.slots) (hd : decode cc pc = .ok (.invokestatic idx, 3)) (kx : ∀ (E : String) (u : HS), px E u → VX p l e R s m args below meth c nL G A u (k + mc) (n + ms) Q pc lv st E) (kk : ∀ (r : UInt64) (u : HS), f r u → V p l e R s m args below meth c nL G A (u) (k + mc) (n + ms) Q (pc + 3) (lv) (.double r :: st)) (st0 : List Value) (hst0 : st0 = as.reverse ++ st) : V p l e R s m args below meth c nL G A (S) (k) (n) Q (pc) (lv) (st0) := v_xcallS C hM hL hL2 hn hst hfr hlo hcl hsl hd kx (fun v u h => by
  obtain ⟨r, rfl, h⟩ := h
  exact kk r u h) st0 hst0
theorem v_xcallSq (C : Cx p l e R s m args below meth c cc nL own G A) {idx : Nat} {y : MethodName} {cb : ByteArray} {maxL : Nat} {ret : Option FieldType} {nargs d mc ms : Nat} {f : Option Nat → HS → Prop} {px : String → HS → Prop} (as : List Value) (hM : cX l y cb maxL ret d as S (pQ f) px mc ms) (hL : ML own idx y cb maxL ret nargs) (hL2 : Cond.static y ∈ wsG) (hn : as.length = nargs) (hst : (st.map fun v => v.category).sum ≤ 8) (hfr : d + 1 ≤ R.frames) (hlo : 8 + (maxL + 11) + 40 * d ≤ R.locals) (hcl : k + mc ≤ R.cells) (hsl : n + ms ≤ R.slots) (hd : decode cc pc = .ok (.invokestatic idx, 3)) (kx : ∀ (E : String) (u : HS), px E u → VX p l e R s m args below meth c nL G A u (k + mc) (n + ms) Q pc lv st E) (kk : ∀ (r : Option Nat) (u : HS), f r u → V p l e R s m args below meth c nL G A (u) (k + mc) (n + ms) Q (pc + 3) (lv) (va_rf r :: st)) (st0 : List Value) (hst0 : st0 = as.reverse ++ st) : V p l e R s m args below meth c nL G A (S) (k) (n) Q (pc) (lv) (st0) := v_xcallS C hM hL hL2 hn hst hfr hlo hcl hsl hd kx (fun v u h => by
  obtain ⟨r, rfl, h⟩ := h
  exact kk r u h) st0 hst0
theorem v_xcallSv (C : Cx p l e R s m args below meth c cc nL own G A) {idx : Nat} {y : MethodName} {cb : ByteArray} {maxL : Nat} {ret : Option FieldType} {nargs d mc ms : Nat} {f : HS → Prop} {px : String → HS → Prop} (as : List Value) (hM : cX l y cb maxL ret d as S (pV f) px mc ms) (hL : ML own idx y cb maxL ret nargs) (hL2 : Cond.static y ∈ wsG) (hn : as.length = nargs) (hst : (st.map fun v => v.category).sum ≤ 8) (hfr : d + 1 ≤ R.frames) (hlo : 8 + (maxL + 11) + 40 * d ≤ R.locals) (hcl : k + mc ≤ R.cells) (hsl : n + ms ≤ R.slots) (hd : decode cc pc = .ok (.invokestatic idx, 3)) (kx : ∀ (E : String) (u : HS), px E u → VX p l e R s m args below meth c nL G A u (k + mc) (n + ms) Q pc lv st E) (kk : ∀ u : HS, f u → V p l e R s m args below meth c nL G A (u) (k + mc) (n + ms) Q (pc + 3) (lv) (st)) (st0 : List Value) (hst0 : st0 = as.reverse ++ st) : V p l e R s m args below meth c nL G A (S) (k) (n) Q (pc) (lv) (st0) := v_xcallS C hM hL hL2 hn hst hfr hlo hcl hsl hd kx (fun v u h => by
  obtain ⟨rfl, h⟩ := h
  exact kk u h) st0 hst0
theorem v_iret (C : Cx p l e R s m args below meth c cc nL own G A) {post : Option Value → HS → Prop} {mc ms : Nat} {x : Int32} (hr : meth.sig.returnType = some .int) (hk : k ≤ mc) (hn : n ≤ ms) (hd : decode cc pc = .ok (.ireturn, 1)) (hp : post (some (.int x)) S) : V p l e R s m args below meth c nL G A S k n (MQ below (gQ post G A) args s mc ms A) pc lv [.int x] := fun H locs ls hW hS hv => W.widen hk hn ((W.iret (hlocks := C.2.2.2.2.2.1) C.1 C.2.1 hr (fun t ht hWm => ⟨⟨_, S, rfl, hp, by rw [ht]; exact hW, gK.moved hWm.alike C.2.2.2.2.2.2.1⟩, hS.F ht⟩) hS.2.2 hd))
theorem v_lret (C : Cx p l e R s m args below meth c cc nL own G A) {post : Option Value → HS → Prop} {mc ms : Nat} {x : Int64} (hr : meth.sig.returnType = some .long) (hk : k ≤ mc) (hn : n ≤ ms) (hd : decode cc pc = .ok (.lreturn, 1)) (hp : post (some (.long x)) S) : V p l e R s m args below meth c nL G A S k n (MQ below (gQ post G A) args s mc ms A) pc lv [.long x] := fun H locs ls hW hS hv => W.widen hk hn ((W.lret (hlocks := C.2.2.2.2.2.1) C.1 C.2.1 hr (fun t ht hWm => ⟨⟨_, S, rfl, hp, by rw [ht]; exact hW, gK.moved hWm.alike C.2.2.2.2.2.2.1⟩, hS.F ht⟩) hS.2.2 hd))
theorem v_fret (C : Cx p l e R s m args below meth c cc nL own G A) {post : Option Value → HS → Prop} {mc ms : Nat} {x : UInt32} (hr : meth.sig.returnType = some .float) (hk : k ≤ mc) (hn : n ≤ ms) (hd : decode cc pc = .ok (.freturn, 1)) (hp : post (some (.float x)) S) : V p l e R s m args below meth c nL G A S k n (MQ below (gQ post G A) args s mc ms A) pc lv [.float x] := fun H locs ls hW hS hv => W.widen hk hn ((W.fret (hlocks := C.2.2.2.2.2.1) C.1 C.2.1 hr (fun t ht hWm => ⟨⟨_, S, rfl, hp, by rw [ht]; exact hW, gK.moved hWm.alike C.2.2.2.2.2.2.1⟩, hS.F ht⟩) hS.2.2 hd))
theorem v_dret (C : Cx p l e R s m args below meth c cc nL own G A) {post : Option Value → HS → Prop} {mc ms : Nat} {x : UInt64} (hr : meth.sig.returnType = some .double) (hk : k ≤ mc) (hn : n ≤ ms) (hd : decode cc pc = .ok (.dreturn, 1)) (hp : post (some (.double x)) S) : V p l e R s m args below meth c nL G A S k n (MQ below (gQ post G A) args s mc ms A) pc lv [.double x] := fun H locs ls hW hS hv => W.widen hk hn ((W.dret (hlocks := C.2.2.2.2.2.1) C.1 C.2.1 hr (fun t ht hWm => ⟨⟨_, S, rfl, hp, by rw [ht]; exact hW, gK.moved hWm.alike C.2.2.2.2.2.2.1⟩, hS.F ht⟩) hS.2.2 hd))
theorem v_zret (C : Cx p l e R s m args below meth c cc nL own G A) {post : Option Value → HS → Prop} {mc ms : Nat} {x : Int32} {ty : FieldType} (hnr : narrow ty (.int x) = .int x) (hr : meth.sig.returnType = some ty) (hk : k ≤ mc) (hn : n ≤ ms) (hd : decode cc pc = .ok (.ireturn, 1)) (hp : post (some (.int x)) S) : V p l e R s m args below meth c nL G A S k n (MQ below (gQ post G A) args s mc ms A) pc lv [.int x] := fun H locs ls hW hS hv => W.widen hk hn ((W.zret (hlocks := C.2.2.2.2.2.1) C.1 C.2.1 hr hnr (fun t ht hWm => ⟨⟨_, S, rfl, hp, by rw [ht]; exact hW, gK.moved hWm.alike C.2.2.2.2.2.2.1⟩, hS.F ht⟩) hS.2.2 hd))
theorem v_vret (C : Cx p l e R s m args below meth c cc nL own G A) {post : Option Value → HS → Prop} {mc ms : Nat} (hr : meth.sig.returnType = none) (hk : k ≤ mc) (hn : n ≤ ms) (hd : decode cc pc = .ok (.return_, 1)) (hp : post none S) : V p l e R s m args below meth c nL G A S k n (MQ below (gQ post G A) args s mc ms A) pc lv [] := fun H locs ls hW hS hv => W.widen hk hn ((W.vret (hlocks := C.2.2.2.2.2.1) C.1 C.2.1 hr (fun t ht hWm => ⟨⟨_, S, rfl, hp, by rw [ht]; exact hW, gK.moved hWm.alike C.2.2.2.2.2.2.1⟩, hS.F ht⟩) hS.2.2 hd))
theorem v_aret (C : Cx p l e R s m args below meth c cc nL own G A) {post : Option Value → HS → Prop} {mc ms : Nat} {r : Option Nat} {rt : FieldType} (hrt : (∃ n, rt = .object n) ∨ ∃ t, rt = .array t) (hr : meth.sig.returnType = some rt) (hk : k ≤ mc) (hn : n ≤ ms) (hd : decode cc pc = .ok (.areturn, 1)) (hp : post (some (va_rf r)) S) : V p l e R s m args below meth c nL G A S k n (MQ below (gQ post G A) args s mc ms A) pc lv [va_rf r] := fun H locs ls hW hS hv => W.widen hk hn ((W.aret (hlocks := C.2.2.2.2.2.1) C.1 C.2.1 hr hrt (by cases r; exact Or.inl rfl; exact Or.inr ⟨_, rfl⟩) (fun t ht hWm => ⟨⟨_, S, rfl, hp, by rw [ht]; exact hW, gK.moved hWm.alike C.2.2.2.2.2.2.1⟩, hS.F ht⟩) hS.2.2 hd))
theorem v_xiret (C : Cx p l e R s m args below meth c cc nL own G A) {post : Option Value → HS → Prop} {px : String → HS → Prop} {mc ms : Nat} {x : Int32} (hr : meth.sig.returnType = some .int) (hk : k ≤ mc) (hn : n ≤ ms) (hd : decode cc pc = .ok (.ireturn, 1)) (hp : post (some (.int x)) S) : V p l e R s m args below meth c nL G A S k n (vx_MQ below (gQ post G A) (gX px G A) args s mc ms A) pc lv [.int x] := fun H locs ls hW hS hv => W.widen hk hn (vx_ret (W.iret (hlocks := C.2.2.2.2.2.1) C.1 C.2.1 hr (fun t ht hWm => ⟨⟨_, S, rfl, hp, by rw [ht]; exact hW, gK.moved hWm.alike C.2.2.2.2.2.2.1⟩, hS.F ht⟩) hS.2.2 hd))
theorem v_xlret (C : Cx p l e R s m args below meth c cc nL own G A) {post : Option Value → HS → Prop} {px : String → HS → Prop} {mc ms : Nat} {x : Int64} (hr : meth.sig.returnType = some .long) (hk : k ≤ mc) (hn : n ≤ ms) (hd : decode cc pc = .ok (.lreturn, 1)) (hp : post (some (.long x)) S) : V p l e R s m args below meth c nL G A S k n (vx_MQ below (gQ post G A) (gX px G A) args s mc ms A) pc lv [.long x] := fun H locs ls hW hS hv => W.widen hk hn (vx_ret (W.lret (hlocks := C.2.2.2.2.2.1) C.1 C.2.1 hr (fun t ht hWm => ⟨⟨_, S, rfl, hp, by rw [ht]; exact hW, gK.moved hWm.alike C.2.2.2.2.2.2.1⟩, hS.F ht⟩) hS.2.2 hd))
theorem v_xfret (C : Cx p l e R s m args below meth c cc nL own G A) {post : Option Value → HS → Prop} {px : String → HS → Prop} {mc ms : Nat} {x : UInt32} (hr : meth.sig.returnType = some .float) (hk : k ≤ mc) (hn : n ≤ ms) (hd : decode cc pc = .ok (.freturn, 1)) (hp : post (some (.float x)) S) : V p l e R s m args below meth c nL G A S k n (vx_MQ below (gQ post G A) (gX px G A) args s mc ms A) pc lv [.float x] := fun H locs ls hW hS hv => W.widen hk hn (vx_ret (W.fret (hlocks := C.2.2.2.2.2.1) C.1 C.2.1 hr (fun t ht hWm => ⟨⟨_, S, rfl, hp, by rw [ht]; exact hW, gK.moved hWm.alike C.2.2.2.2.2.2.1⟩, hS.F ht⟩) hS.2.2 hd))
theorem v_xdret (C : Cx p l e R s m args below meth c cc nL own G A) {post : Option Value → HS → Prop} {px : String → HS → Prop} {mc ms : Nat} {x : UInt64} (hr : meth.sig.returnType = some .double) (hk : k ≤ mc) (hn : n ≤ ms) (hd : decode cc pc = .ok (.dreturn, 1)) (hp : post (some (.double x)) S) : V p l e R s m args below meth c nL G A S k n (vx_MQ below (gQ post G A) (gX px G A) args s mc ms A) pc lv [.double x] := fun H locs ls hW hS hv => W.widen hk hn (vx_ret (W.dret (hlocks := C.2.2.2.2.2.1) C.1 C.2.1 hr (fun t ht hWm => ⟨⟨_, S, rfl, hp, by rw [ht]; exact hW, gK.moved hWm.alike C.2.2.2.2.2.2.1⟩, hS.F ht⟩) hS.2.2 hd))
theorem v_xzret (C : Cx p l e R s m args below meth c cc nL own G A) {post : Option Value → HS → Prop} {px : String → HS → Prop} {mc ms : Nat} {x : Int32} {ty : FieldType} (hnr : narrow ty (.int x) = .int x) (hr : meth.sig.returnType = some ty) (hk : k ≤ mc) (hn : n ≤ ms) (hd : decode cc pc = .ok (.ireturn, 1)) (hp : post (some (.int x)) S) : V p l e R s m args below meth c nL G A S k n (vx_MQ below (gQ post G A) (gX px G A) args s mc ms A) pc lv [.int x] := fun H locs ls hW hS hv => W.widen hk hn (vx_ret (W.zret (hlocks := C.2.2.2.2.2.1) C.1 C.2.1 hr hnr (fun t ht hWm => ⟨⟨_, S, rfl, hp, by rw [ht]; exact hW, gK.moved hWm.alike C.2.2.2.2.2.2.1⟩, hS.F ht⟩) hS.2.2 hd))
theorem v_xvret (C : Cx p l e R s m args below meth c cc nL own G A) {post : Option Value → HS → Prop} {px : String → HS → Prop} {mc ms : Nat} (hr : meth.sig.returnType = none) (hk : k ≤ mc) (hn : n ≤ ms) (hd : decode cc pc = .ok (.return_, 1)) (hp : post none S) : V p l e R s m args below meth c nL G A S k n (vx_MQ below (gQ post G A) (gX px G A) args s mc ms A) pc lv [] := fun H locs ls hW hS hv => W.widen hk hn (vx_ret (W.vret (hlocks := C.2.2.2.2.2.1) C.1 C.2.1 hr (fun t ht hWm => ⟨⟨_, S, rfl, hp, by rw [ht]; exact hW, gK.moved hWm.alike C.2.2.2.2.2.2.1⟩, hS.F ht⟩) hS.2.2 hd))
theorem v_xaret (C : Cx p l e R s m args below meth c cc nL own G A) {post : Option Value → HS → Prop} {px : String → HS → Prop} {mc ms : Nat} {r : Option Nat} {rt : FieldType} (hrt : (∃ n, rt = .object n) ∨ ∃ t, rt = .array t) (hr : meth.sig.returnType = some rt) (hk : k ≤ mc) (hn : n ≤ ms) (hd : decode cc pc = .ok (.areturn, 1)) (hp : post (some (va_rf r)) S) : V p l e R s m args below meth c nL G A S k n (vx_MQ below (gQ post G A) (gX px G A) args s mc ms A) pc lv [va_rf r] := fun H locs ls hW hS hv => W.widen hk hn (vx_ret (W.aret (hlocks := C.2.2.2.2.2.1) C.1 C.2.1 hr hrt (by cases r; exact Or.inl rfl; exact Or.inr ⟨_, rfl⟩) (fun t ht hWm => ⟨⟨_, S, rfl, hp, by rw [ht]; exact hW, gK.moved hWm.alike C.2.2.2.2.2.2.1⟩, hS.F ht⟩) hS.2.2 hd))
theorem vx_end (C : Cx p l e R s m args below meth c cc nL own G A) {post : Option Value → HS → Prop} {px : String → HS → Prop} {mc ms : Nat} {E : String} (hnt : ∀ x ∈ c.exceptionTable.toList, False) (hk : k ≤ mc) (hn : n ≤ ms) (hp : px E S) : VX p l e R s m args below meth c nL G A S k n (vx_MQ below (gQ post G A) (gX px G A) args s mc ms A) pc lv st E := fun H locs ls q ce hW hS hv h1 h2 h3 =>
  vx_out (fun x hx => (hnt x hx).elim) C.2.2.2.2.2.1 h1 h2 h3 (fun t ht hal => ⟨S, trivial, ⟨hp, by rw [ht]; exact hW, gK.moved hal C.2.2.2.2.2.2.1⟩, hS.F ht⟩) hS.2.2 hk hn
/-- throw new E("text") -/
def TL (own : String) (ik is ic : Nat) (E text : String) : Prop :=
  own = RX4 ∧ (is, text) ∈ strs ∧ Bundle.fit E = true ∧ (∀ w ∈ Cond.classLink own ik E :: Cond.initialized E :: vx_atS own ic E ["java/lang/RuntimeException", "java/lang/Exception"], w ∈ wsG)
theorem v_throwS (C : Cx p l e R s m args below meth c cc nL own G A) (hlf : l.stackTraces = false) {post : Option Value → HS → Prop} {px : String → HS → Prop} {mc ms ik is ic : Nat} {E text : String} (hT : TL own ik is ic E text) (hnt : ∀ x ∈ c.exceptionTable.toList, False) (hRf : 5 < R.frames) (hst : (st.map fun v => v.category).sum ≤ 8) (hRl : 90 ≤ R.locals) (hRc : k + 1 ≤ R.cells) (hRs : n + 6 ≤ R.slots) (hk : k + 1 ≤ mc) (hn : n + 6 ≤ ms) (hp : px E S)
    (d0 : decode cc pc = .ok (.new ik, 3)) (d3 : decode cc (pc + 3) = .ok (.dup, 1)) (d4 : decode cc (pc + 4) = .ok (.ldc is, 2)) (d6 : decode cc (pc + 6) = .ok (.invokespecial ic, 3)) (d9 : decode cc (pc + 9) = .ok (.athrow, 1)) : V p l e R s m args below meth c nL G A S k n (vx_MQ below (gQ post G A) (gX px G A) args s mc ms A) pc lv st := by
  intro H locs ls hW hS hv
  obtain ⟨rfl, hstr, hfit, hws⟩ := hT
  obtain ⟨h1, h2, h3, -⟩ := C.2.2.2.2.2.2.2.1
  refine vx_throwS (names := ["java/lang/RuntimeException", "java/lang/Exception"]) C.1 C.2.1 hlf C.2.2.2.1 hfit (by decide +kernel) (C.2.2.2.2.1 _ (hws _ List.mem_cons_self)) (C.2.2.2.2.1 _ (hws _ (List.mem_cons_of_mem _ List.mem_cons_self))) (h3 _ hstr) (fun w hw => C.2.2.2.2.1 _ (hws _ (List.mem_cons_of_mem _ (List.mem_cons_of_mem _ hw)))) (fun w hw => ?_) h1 h2 hS (hv.1.trans C.2.2.1.symm) d0 d3 d4 d6 d9 (fun x hx => (hnt x hx).elim) hRf (by show _ + (13 * 3 + 43) ≤ _; omega) hRc hRs C.2.2.2.2.2.1 (fun t hal hsz hkp => ?_) hS.2.2 hk hn
  · have := wsG_good (hws w hw)
    simp [vx_ot, this]
  · refine ⟨S, trivial, ⟨hp, hW.kept (fun q hq => hkp q (hW.dom hq).2), gK.moved hal C.2.2.2.2.2.2.1⟩, Nat.le_trans hS.1 hsz, fun q h4 h5 => ?_⟩
    rw [hkp q (Nat.lt_of_lt_of_le h4 hS.1)]
    exact hS.2.1 q h4 h5
end CALLS
/-- the beginning of a method's walk -/
theorem cM_intro {l : Launch} {y : MethodName} {cc : ByteArray} {maxL : Nat} {ret : Option FieldType} {d : Nat} {av : List Value} {S : HS} {post : Option Value → HS → Prop} {mc ms : Nat} (hy : plainName y.cls = true) (hw : Cond.code y cc maxL ret ∈ wsG) (hn : (lg_sl av).length ≤ maxL)
    (body : ∀ (p : Program) (e : Env) (s : State) (m : MethodId) (args : Array Value) (below : List Frame) (meth : Method) (c : Code) (G : GT) (A : Nat → Prop), Cx p l e (rmD d mc ms) s m args below meth c cc maxL y.cls G A → meth.sig.returnType = ret → meth.name = y.name → V p l e (rmD d mc ms) s m args below meth c maxL G A S 0 0 (MQ below (gQ post G A) args s mc ms A) 0 (lv_args 0 av) []) : cM l y cc maxL ret d av S post mc ms := by
  intro G sz
  refine Met.ofW (cc := cc) (maxL := maxL) (ret := ret) hy rfl ?_
  intro p e s m args below meth c s₁ B hml hv
  obtain ⟨rfl, hsz, hW, hK9, hE⟩ := hv
  subst hsz
  have hts := atoms_spec (ws := Cond.code y cc maxL ret :: wsG) B.pre
  have C : Cx p l e (rmD d mc ms) s m av.toArray below meth c cc maxL y.cls G (dA S s.heap.size) := ⟨B.exec, B.bytes, hml, findClass_of_methodNamed B.named, fun w hw9 => hts w (List.mem_cons_of_mem _ hw9), B.notSynchronized, hK9, hE, fun q h => Or.inr h⟩
  have hl := lv_entry av (n := maxL) hn
  rw [lg_entry_eq]
  exact body p e s m _ below meth c G _ C B.returns (name_of_methodNamed B.named B.method).1 s.heap [] _ hW va_S.rf hl
theorem cX_intro {l : Launch} {y : MethodName} {cc : ByteArray} {maxL : Nat} {ret : Option FieldType} {d : Nat} {av : List Value} {S : HS} {post : Option Value → HS → Prop} {px : String → HS → Prop} {mc ms : Nat} (hy : plainName y.cls = true) (hw : Cond.code y cc maxL ret ∈ wsG) (hn : (lg_sl av).length ≤ maxL)
    (body : ∀ (p : Program) (e : Env) (s : State) (m : MethodId) (args : Array Value) (below : List Frame) (meth : Method) (c : Code) (G : GT) (A : Nat → Prop), Cx p l e (rmD d mc ms) s m args below meth c cc maxL y.cls G A → meth.sig.returnType = ret → (∀ x ∈ c.exceptionTable.toList, False) → V p l e (rmD d mc ms) s m args below meth c maxL G A S 0 0 (vx_MQ below (gQ post G A) (gX px G A) args s mc ms A) 0 (lv_args 0 av) []) : cX l y cc maxL ret d av S post px mc ms := by
  intro G sz
  refine vx_ofW (cc := cc) (maxL := maxL) (ret := ret) hy rfl ?_
  intro p e s m args below meth c s₁ B hml hnt hv
  obtain ⟨rfl, hsz, hW, hK9, hE⟩ := hv
  subst hsz
  have hts := atoms_spec (ws := Cond.code y cc maxL ret :: wsG) B.pre
  have C : Cx p l e (rmD d mc ms) s m av.toArray below meth c cc maxL y.cls G (dA S s.heap.size) := ⟨B.exec, B.bytes, hml, findClass_of_methodNamed B.named, fun w hw9 => hts w (List.mem_cons_of_mem _ hw9), B.notSynchronized, hK9, hE, fun q h => Or.inr h⟩
  have hl := lv_entry av (n := maxL) hn
  rw [lg_entry_eq]
  exact body p e s m _ below meth c G _ C B.returns hnt s.heap [] _ hW va_S.rf hl
end
