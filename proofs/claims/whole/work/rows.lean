section
-- ===== PART A: goes FIRST, ahead of the names: the tables' words, and 'selects' of the private methods out of them =====
/-- a private method of a class that the tables say can be made, by its rows of tables_1 -/
def lw_okq (q : MethodName × Nat) : Prop := (q.1.cls ≠ "java/lang/invoke/MethodHandle" ∧ q.1.cls ≠ "java/lang/invoke/VarHandle") ∧ Cond.instantiable q.1.cls q.2 ∈ tables_1 ∧ Cond.privateMethod q.1 ∈ tables_1 ∧ Cond.instanceMethod q.1 ∈ tables_1
theorem lw_p0 : lw_okq (⟨"Ghostracer", "rideAgain", "(LGhostracer$Lap;I)V"⟩, 9) := ⟨⟨by decide +kernel, by decide +kernel⟩, List.mem_of_getElem? (i := 19) (by decide +kernel), List.mem_of_getElem? (i := 269) (by decide +kernel), List.mem_of_getElem? (i := 270) (by decide +kernel)⟩
theorem lw_p1 : lw_okq (⟨"Ghostracer", "trackNumbered", "(I)LGhostracer$Track;"⟩, 9) := ⟨⟨by decide +kernel, by decide +kernel⟩, List.mem_of_getElem? (i := 19) (by decide +kernel), List.mem_of_getElem? (i := 273) (by decide +kernel), List.mem_of_getElem? (i := 274) (by decide +kernel)⟩
theorem lw_p2 : lw_okq (⟨"java/lang/Throwable", "fillInStackTrace", "(I)Ljava/lang/Throwable;"⟩, 6) := ⟨⟨by decide +kernel, by decide +kernel⟩, List.mem_of_getElem? (i := 317) (by decide +kernel), List.mem_of_getElem? (i := 315) (by decide +kernel), List.mem_of_getElem? (i := 316) (by decide +kernel)⟩
theorem lw_p3 : lw_okq (⟨"Ghostracer", "carNumbered", "(I)LGhostracer$Car;"⟩, 9) := ⟨⟨by decide +kernel, by decide +kernel⟩, List.mem_of_getElem? (i := 19) (by decide +kernel), List.mem_of_getElem? (i := 347) (by decide +kernel), List.mem_of_getElem? (i := 348) (by decide +kernel)⟩
theorem lw_p4 : lw_okq (⟨"Ghostracer$Ride", "move", "(CLGhostracer$Track;LGhostracer$Car;)V"⟩, 5) := ⟨⟨by decide +kernel, by decide +kernel⟩, List.mem_of_getElem? (i := 31) (by decide +kernel), List.mem_of_getElem? (i := 356) (by decide +kernel), List.mem_of_getElem? (i := 357) (by decide +kernel)⟩
theorem lw_p5 : lw_okq (⟨"Ghostracer$Ride", "finish", "(I)V"⟩, 5) := ⟨⟨by decide +kernel, by decide +kernel⟩, List.mem_of_getElem? (i := 31) (by decide +kernel), List.mem_of_getElem? (i := 370) (by decide +kernel), List.mem_of_getElem? (i := 371) (by decide +kernel)⟩
theorem lw_p6 : lw_okq (⟨"Ghostracer", "requireDriver", "(I)V"⟩, 9) := ⟨⟨by decide +kernel, by decide +kernel⟩, List.mem_of_getElem? (i := 19) (by decide +kernel), List.mem_of_getElem? (i := 513) (by decide +kernel), List.mem_of_getElem? (i := 514) (by decide +kernel)⟩
theorem lw_p7 : lw_okq (⟨"Ghostracer", "rideTyped", "(LGhostracer$Track;LGhostracer$Car;)V"⟩, 9) := ⟨⟨by decide +kernel, by decide +kernel⟩, List.mem_of_getElem? (i := 19) (by decide +kernel), List.mem_of_getElem? (i := 524) (by decide +kernel), List.mem_of_getElem? (i := 525) (by decide +kernel)⟩
theorem lw_p8 : lw_okq (⟨"Ghostracer$Book", "store", "(LGhostracer$Lap;I)V"⟩, 2) := ⟨⟨by decide +kernel, by decide +kernel⟩, List.mem_of_getElem? (i := 60) (by decide +kernel), List.mem_of_getElem? (i := 543) (by decide +kernel), List.mem_of_getElem? (i := 544) (by decide +kernel)⟩
theorem lw_p9 : lw_okq (⟨"Ghostracer$Book", "settleDepth", "(LGhostracer$Lap;)V"⟩, 2) := ⟨⟨by decide +kernel, by decide +kernel⟩, List.mem_of_getElem? (i := 60) (by decide +kernel), List.mem_of_getElem? (i := 551) (by decide +kernel), List.mem_of_getElem? (i := 552) (by decide +kernel)⟩
theorem lw_p10 : lw_okq (⟨"Ghostracer", "lapNumbered", "(I)LGhostracer$Lap;"⟩, 9) := ⟨⟨by decide +kernel, by decide +kernel⟩, List.mem_of_getElem? (i := 19) (by decide +kernel), List.mem_of_getElem? (i := 569) (by decide +kernel), List.mem_of_getElem? (i := 570) (by decide +kernel)⟩
theorem lw_p11 : lw_okq (⟨"Ghostracer$Book", "restsOn", "(II)Z"⟩, 2) := ⟨⟨by decide +kernel, by decide +kernel⟩, List.mem_of_getElem? (i := 60) (by decide +kernel), List.mem_of_getElem? (i := 667) (by decide +kernel), List.mem_of_getElem? (i := 668) (by decide +kernel)⟩
theorem lw_p12 : lw_okq (⟨"Ghostracer", "findLap", "(II)I"⟩, 9) := ⟨⟨by decide +kernel, by decide +kernel⟩, List.mem_of_getElem? (i := 19) (by decide +kernel), List.mem_of_getElem? (i := 737) (by decide +kernel), List.mem_of_getElem? (i := 738) (by decide +kernel)⟩
theorem lw_p13 : lw_okq (⟨"Ghostracer$Season", "score", "(LGhostracer$Book;II)V"⟩, 8) := ⟨⟨by decide +kernel, by decide +kernel⟩, List.mem_of_getElem? (i := 139) (by decide +kernel), List.mem_of_getElem? (i := 779) (by decide +kernel), List.mem_of_getElem? (i := 780) (by decide +kernel)⟩
theorem lw_p14 : lw_okq (⟨"Ghostracer$Season", "takeLeast", "(I)I"⟩, 8) := ⟨⟨by decide +kernel, by decide +kernel⟩, List.mem_of_getElem? (i := 139) (by decide +kernel), List.mem_of_getElem? (i := 786) (by decide +kernel), List.mem_of_getElem? (i := 787) (by decide +kernel)⟩
theorem lw_p15 : lw_okq (⟨"Ghostracer$Season", "isAheadInSeason", "(II)Z"⟩, 8) := ⟨⟨by decide +kernel, by decide +kernel⟩, List.mem_of_getElem? (i := 139) (by decide +kernel), List.mem_of_getElem? (i := 809) (by decide +kernel), List.mem_of_getElem? (i := 810) (by decide +kernel)⟩
def lw_privs_1 : List (MethodName × Nat) := [(⟨"Ghostracer", "rideAgain", "(LGhostracer$Lap;I)V"⟩, 9), (⟨"Ghostracer", "trackNumbered", "(I)LGhostracer$Track;"⟩, 9), (⟨"java/lang/Throwable", "fillInStackTrace", "(I)Ljava/lang/Throwable;"⟩, 6), (⟨"Ghostracer", "carNumbered", "(I)LGhostracer$Car;"⟩, 9), (⟨"Ghostracer$Ride", "move", "(CLGhostracer$Track;LGhostracer$Car;)V"⟩, 5), (⟨"Ghostracer$Ride", "finish", "(I)V"⟩, 5), (⟨"Ghostracer", "requireDriver", "(I)V"⟩, 9), (⟨"Ghostracer", "rideTyped", "(LGhostracer$Track;LGhostracer$Car;)V"⟩, 9), (⟨"Ghostracer$Book", "store", "(LGhostracer$Lap;I)V"⟩, 2), (⟨"Ghostracer$Book", "settleDepth", "(LGhostracer$Lap;)V"⟩, 2), (⟨"Ghostracer", "lapNumbered", "(I)LGhostracer$Lap;"⟩, 9), (⟨"Ghostracer$Book", "restsOn", "(II)Z"⟩, 2), (⟨"Ghostracer", "findLap", "(II)I"⟩, 9), (⟨"Ghostracer$Season", "score", "(LGhostracer$Book;II)V"⟩, 8), (⟨"Ghostracer$Season", "takeLeast", "(I)I"⟩, 8), (⟨"Ghostracer$Season", "isAheadInSeason", "(II)Z"⟩, 8)]
theorem lw_r1 : ∀ q ∈ lw_privs_1, lw_okq q := List.forall_mem_cons.mpr ⟨lw_p0, List.forall_mem_cons.mpr ⟨lw_p1, List.forall_mem_cons.mpr ⟨lw_p2, List.forall_mem_cons.mpr ⟨lw_p3, List.forall_mem_cons.mpr ⟨lw_p4, List.forall_mem_cons.mpr ⟨lw_p5, List.forall_mem_cons.mpr ⟨lw_p6, List.forall_mem_cons.mpr ⟨lw_p7, List.forall_mem_cons.mpr ⟨lw_p8, List.forall_mem_cons.mpr ⟨lw_p9, List.forall_mem_cons.mpr ⟨lw_p10, List.forall_mem_cons.mpr ⟨lw_p11, List.forall_mem_cons.mpr ⟨lw_p12, List.forall_mem_cons.mpr ⟨lw_p13, List.forall_mem_cons.mpr ⟨lw_p14, List.forall_mem_cons.mpr ⟨lw_p15, fun _ h => absurd h List.not_mem_nil⟩⟩⟩⟩⟩⟩⟩⟩⟩⟩⟩⟩⟩⟩⟩⟩
theorem lw_p16 : lw_okq (⟨"GhostracerModel", "fails", "(I)Z"⟩, 32) := ⟨⟨by decide +kernel, by decide +kernel⟩, List.mem_of_getElem? (i := 830) (by decide +kernel), List.mem_of_getElem? (i := 942) (by decide +kernel), List.mem_of_getElem? (i := 943) (by decide +kernel)⟩
theorem lw_p17 : lw_okq (⟨"GhostracerModel", "isNoTrack", "(I)Z"⟩, 32) := ⟨⟨by decide +kernel, by decide +kernel⟩, List.mem_of_getElem? (i := 830) (by decide +kernel), List.mem_of_getElem? (i := 950) (by decide +kernel), List.mem_of_getElem? (i := 951) (by decide +kernel)⟩
theorem lw_p18 : lw_okq (⟨"GhostracerModel", "lengthNow", "(I)I"⟩, 32) := ⟨⟨by decide +kernel, by decide +kernel⟩, List.mem_of_getElem? (i := 830) (by decide +kernel), List.mem_of_getElem? (i := 957) (by decide +kernel), List.mem_of_getElem? (i := 958) (by decide +kernel)⟩
theorem lw_p19 : lw_okq (⟨"GhostracerModel", "limitNow", "(II)I"⟩, 32) := ⟨⟨by decide +kernel, by decide +kernel⟩, List.mem_of_getElem? (i := 830) (by decide +kernel), List.mem_of_getElem? (i := 973) (by decide +kernel), List.mem_of_getElem? (i := 974) (by decide +kernel)⟩
theorem lw_p20 : lw_okq (⟨"GhostracerModel", "isNoCar", "(I)Z"⟩, 32) := ⟨⟨by decide +kernel, by decide +kernel⟩, List.mem_of_getElem? (i := 830) (by decide +kernel), List.mem_of_getElem? (i := 989) (by decide +kernel), List.mem_of_getElem? (i := 990) (by decide +kernel)⟩
theorem lw_p21 : lw_okq (⟨"GhostracerModel", "isGhost", "(II)Z"⟩, 32) := ⟨⟨by decide +kernel, by decide +kernel⟩, List.mem_of_getElem? (i := 830) (by decide +kernel), List.mem_of_getElem? (i := 993) (by decide +kernel), List.mem_of_getElem? (i := 994) (by decide +kernel)⟩
theorem lw_p22 : lw_okq (⟨"GhostracerModel", "isNoLap", "(I)Z"⟩, 32) := ⟨⟨by decide +kernel, by decide +kernel⟩, List.mem_of_getElem? (i := 830) (by decide +kernel), List.mem_of_getElem? (i := 997) (by decide +kernel), List.mem_of_getElem? (i := 998) (by decide +kernel)⟩
theorem lw_p23 : lw_okq (⟨"GhostracerModel", "canDrive", "(II)Z"⟩, 32) := ⟨⟨by decide +kernel, by decide +kernel⟩, List.mem_of_getElem? (i := 830) (by decide +kernel), List.mem_of_getElem? (i := 1001) (by decide +kernel), List.mem_of_getElem? (i := 1002) (by decide +kernel)⟩
theorem lw_p24 : lw_okq (⟨"GhostracerModel", "drives", "(II)V"⟩, 32) := ⟨⟨by decide +kernel, by decide +kernel⟩, List.mem_of_getElem? (i := 830) (by decide +kernel), List.mem_of_getElem? (i := 1005) (by decide +kernel), List.mem_of_getElem? (i := 1006) (by decide +kernel)⟩
theorem lw_p25 : lw_okq (⟨"GhostracerModel", "starts", "()V"⟩, 32) := ⟨⟨by decide +kernel, by decide +kernel⟩, List.mem_of_getElem? (i := 830) (by decide +kernel), List.mem_of_getElem? (i := 1009) (by decide +kernel), List.mem_of_getElem? (i := 1010) (by decide +kernel)⟩
theorem lw_p26 : lw_okq (⟨"GhostracerModel", "goes", "(IIC)V"⟩, 32) := ⟨⟨by decide +kernel, by decide +kernel⟩, List.mem_of_getElem? (i := 830) (by decide +kernel), List.mem_of_getElem? (i := 1013) (by decide +kernel), List.mem_of_getElem? (i := 1014) (by decide +kernel)⟩
theorem lw_p27 : lw_okq (⟨"GhostracerModel", "timeNow", "(I)I"⟩, 32) := ⟨⟨by decide +kernel, by decide +kernel⟩, List.mem_of_getElem? (i := 830) (by decide +kernel), List.mem_of_getElem? (i := 1017) (by decide +kernel), List.mem_of_getElem? (i := 1018) (by decide +kernel)⟩
theorem lw_p28 : lw_okq (⟨"GhostracerModel", "depthOf", "(I)I"⟩, 32) := ⟨⟨by decide +kernel, by decide +kernel⟩, List.mem_of_getElem? (i := 830) (by decide +kernel), List.mem_of_getElem? (i := 1021) (by decide +kernel), List.mem_of_getElem? (i := 1022) (by decide +kernel)⟩
theorem lw_p29 : lw_okq (⟨"GhostracerModel", "countOf", "(I)I"⟩, 32) := ⟨⟨by decide +kernel, by decide +kernel⟩, List.mem_of_getElem? (i := 830) (by decide +kernel), List.mem_of_getElem? (i := 1037) (by decide +kernel), List.mem_of_getElem? (i := 1038) (by decide +kernel)⟩
theorem lw_p30 : lw_okq (⟨"GhostracerModel", "partsOf", "(I)I"⟩, 32) := ⟨⟨by decide +kernel, by decide +kernel⟩, List.mem_of_getElem? (i := 830) (by decide +kernel), List.mem_of_getElem? (i := 1077) (by decide +kernel), List.mem_of_getElem? (i := 1078) (by decide +kernel)⟩
theorem lw_p31 : lw_okq (⟨"GhostracerModel", "allParts", "()I"⟩, 32) := ⟨⟨by decide +kernel, by decide +kernel⟩, List.mem_of_getElem? (i := 830) (by decide +kernel), List.mem_of_getElem? (i := 1085) (by decide +kernel), List.mem_of_getElem? (i := 1086) (by decide +kernel)⟩
def lw_privs_2 : List (MethodName × Nat) := [(⟨"GhostracerModel", "fails", "(I)Z"⟩, 32), (⟨"GhostracerModel", "isNoTrack", "(I)Z"⟩, 32), (⟨"GhostracerModel", "lengthNow", "(I)I"⟩, 32), (⟨"GhostracerModel", "limitNow", "(II)I"⟩, 32), (⟨"GhostracerModel", "isNoCar", "(I)Z"⟩, 32), (⟨"GhostracerModel", "isGhost", "(II)Z"⟩, 32), (⟨"GhostracerModel", "isNoLap", "(I)Z"⟩, 32), (⟨"GhostracerModel", "canDrive", "(II)Z"⟩, 32), (⟨"GhostracerModel", "drives", "(II)V"⟩, 32), (⟨"GhostracerModel", "starts", "()V"⟩, 32), (⟨"GhostracerModel", "goes", "(IIC)V"⟩, 32), (⟨"GhostracerModel", "timeNow", "(I)I"⟩, 32), (⟨"GhostracerModel", "depthOf", "(I)I"⟩, 32), (⟨"GhostracerModel", "countOf", "(I)I"⟩, 32), (⟨"GhostracerModel", "partsOf", "(I)I"⟩, 32), (⟨"GhostracerModel", "allParts", "()I"⟩, 32)]
theorem lw_r2 : ∀ q ∈ lw_privs_2, lw_okq q := List.forall_mem_cons.mpr ⟨lw_p16, List.forall_mem_cons.mpr ⟨lw_p17, List.forall_mem_cons.mpr ⟨lw_p18, List.forall_mem_cons.mpr ⟨lw_p19, List.forall_mem_cons.mpr ⟨lw_p20, List.forall_mem_cons.mpr ⟨lw_p21, List.forall_mem_cons.mpr ⟨lw_p22, List.forall_mem_cons.mpr ⟨lw_p23, List.forall_mem_cons.mpr ⟨lw_p24, List.forall_mem_cons.mpr ⟨lw_p25, List.forall_mem_cons.mpr ⟨lw_p26, List.forall_mem_cons.mpr ⟨lw_p27, List.forall_mem_cons.mpr ⟨lw_p28, List.forall_mem_cons.mpr ⟨lw_p29, List.forall_mem_cons.mpr ⟨lw_p30, List.forall_mem_cons.mpr ⟨lw_p31, fun _ h => absurd h List.not_mem_nil⟩⟩⟩⟩⟩⟩⟩⟩⟩⟩⟩⟩⟩⟩⟩⟩
theorem lw_p32 : lw_okq (⟨"GhostracerModel", "rests", "(II)Z"⟩, 32) := ⟨⟨by decide +kernel, by decide +kernel⟩, List.mem_of_getElem? (i := 830) (by decide +kernel), List.mem_of_getElem? (i := 1093) (by decide +kernel), List.mem_of_getElem? (i := 1094) (by decide +kernel)⟩
theorem lw_p33 : lw_okq (⟨"GhostracerModel", "lapNow", "(II)I"⟩, 32) := ⟨⟨by decide +kernel, by decide +kernel⟩, List.mem_of_getElem? (i := 830) (by decide +kernel), List.mem_of_getElem? (i := 1125) (by decide +kernel), List.mem_of_getElem? (i := 1126) (by decide +kernel)⟩
theorem lw_p34 : lw_okq (⟨"GhostracerModel", "isNoSeat", "(II)Z"⟩, 32) := ⟨⟨by decide +kernel, by decide +kernel⟩, List.mem_of_getElem? (i := 830) (by decide +kernel), List.mem_of_getElem? (i := 1129) (by decide +kernel), List.mem_of_getElem? (i := 1130) (by decide +kernel)⟩
theorem lw_p35 : lw_okq (⟨"GhostracerModel", "placeNow", "(II)I"⟩, 32) := ⟨⟨by decide +kernel, by decide +kernel⟩, List.mem_of_getElem? (i := 830) (by decide +kernel), List.mem_of_getElem? (i := 1137) (by decide +kernel), List.mem_of_getElem? (i := 1138) (by decide +kernel)⟩
theorem lw_p36 : lw_okq (⟨"GhostracerModel", "pointsOf", "(I)I"⟩, 32) := ⟨⟨by decide +kernel, by decide +kernel⟩, List.mem_of_getElem? (i := 830) (by decide +kernel), List.mem_of_getElem? (i := 1152) (by decide +kernel), List.mem_of_getElem? (i := 1153) (by decide +kernel)⟩
theorem lw_p37 : lw_okq (⟨"GhostracerModel", "winsOf", "(I)I"⟩, 32) := ⟨⟨by decide +kernel, by decide +kernel⟩, List.mem_of_getElem? (i := 830) (by decide +kernel), List.mem_of_getElem? (i := 1163) (by decide +kernel), List.mem_of_getElem? (i := 1164) (by decide +kernel)⟩
def lw_privs_3 : List (MethodName × Nat) := [(⟨"GhostracerModel", "rests", "(II)Z"⟩, 32), (⟨"GhostracerModel", "lapNow", "(II)I"⟩, 32), (⟨"GhostracerModel", "isNoSeat", "(II)Z"⟩, 32), (⟨"GhostracerModel", "placeNow", "(II)I"⟩, 32), (⟨"GhostracerModel", "pointsOf", "(I)I"⟩, 32), (⟨"GhostracerModel", "winsOf", "(I)I"⟩, 32)]
theorem lw_r3 : ∀ q ∈ lw_privs_3, lw_okq q := List.forall_mem_cons.mpr ⟨lw_p32, List.forall_mem_cons.mpr ⟨lw_p33, List.forall_mem_cons.mpr ⟨lw_p34, List.forall_mem_cons.mpr ⟨lw_p35, List.forall_mem_cons.mpr ⟨lw_p36, List.forall_mem_cons.mpr ⟨lw_p37, fun _ h => absurd h List.not_mem_nil⟩⟩⟩⟩⟩⟩
def lw_privs : List (MethodName × Nat) := lw_privs_1 ++ (lw_privs_2 ++ (lw_privs_3))
def lw_tbl : List Cond := k2_sels lw_privs ++ tables_1
theorem lw_privs_ok : ∀ q ∈ lw_privs, lw_okq q := by
  show ∀ q ∈ lw_privs_1 ++ (lw_privs_2 ++ (lw_privs_3)), lw_okq q
  exact List.forall_mem_append.mpr ⟨lw_r1, List.forall_mem_append.mpr ⟨lw_r2, lw_r3⟩⟩
/-- the streams that the claim lets the run draw from -/
abbrev lw_cs : List Choice := [Jvm.Choice.named "NaN.bits"]
theorem lw_bits : nanBits ∈ lw_cs := by first | decide | exact List.mem_cons_self | simp [lw_cs, nanBits]
/-! ===== BEGIN words of one list among another's, by their places ===== -/
theorem goodIn_r {big : List Cond} (ws : List Cond) (ps : List Nat) (hp : ws = ps.filterMap (fun i => big[i]?)) (h : ws.all goodWord = true) : GoodIn big ws := by
  intro w hw
  have h1 := List.all_eq_true.mp h w hw
  rw [hp] at hw
  obtain ⟨i, -, hi⟩ := List.mem_filterMap.mp hw
  have hm : w ∈ big := by first | exact List.mem_of_getElem? hi | exact List.getElem?_mem hi
  exact ⟨hm, good_of_word h1⟩
theorem goodIn_app {big a b : List Cond} (ha : GoodIn big a) (hb : GoodIn big b) : GoodIn big (a ++ b) := fun w h => (List.mem_append.mp h).elim (ha w) (hb w)
theorem goodIn_ca {big a b : List Cond} {c : Cond} (ha : GoodIn big (c :: a)) (hb : GoodIn big b) : GoodIn big (c :: (a ++ b)) := fun w h => (List.mem_cons.mp h).elim (fun e => ha w (List.mem_cons.mpr (Or.inl e))) (fun h => (List.mem_append.mp h).elim (fun h => ha w (List.mem_cons.mpr (Or.inr h))) (hb w))
theorem goodIn_sub {big ws : List Cond} (hm : ∀ w ∈ ws, w ∈ big) (h : ws.all goodWord = true) : GoodIn big ws := fun w hw => ⟨hm w hw, good_of_word (List.all_eq_true.mp h w hw)⟩
/-! ===== END ===== -/

/-! ===== BEGIN exceptions that leave a method, and their catching by the caller (launches without stack traces) ===== -/
section VXA
/-! The laws vx_back, vx_callV, vx_callS, vx_callSW, vx_throw0, vx_throwS follow proofs of the library, with one case more: JvmDerived/Free/Laws.lean (Back.of_free), Shelf42/LK1.lean (callV, callS), Shelf/KitTraced.lean (throwNew0V, throwNewS). -/
/-- where a method has thrown q: the class by its name, the cell, what was written, the world -/
def vx_T (XC : String → State → State → Prop) (st : State) (q : Addr) (t : State) (mc ms : Nat) (free : Addr → Prop) : Prop :=
  ∃ (E : String) (ce : Cell) (L : List Loc), XC E st t ∧ t.heap[q]? = some ce ∧ ce.vm = .none ∧ st.vm.findClass E = some ce.cls ∧ st.WarmedH t.vm ∧ st.sameButNew ({ t with vm := st.vm } : State) L mc ms ∧ ∀ z ∈ L, free z.base
def vx_Q (Qc : Array Value → State → Outcome → State → Prop) (XC : String → State → State → Prop) (mc ms : Nat) (free : Addr → Prop) : Array Value → State → Outcome → State → Prop := fun a st o t =>
  (Qc a st o t ∧ ∃ L, FrameEnd st o t L mc ms ∧ ∀ q ∈ L, free q.base) ∨ ∃ q, o = .threw q ∧ vx_T XC st q t mc ms free
/-- a callee that returns or throws -/
def vx_Met (l : Launch) (y : MethodName) (ws : List Cond) (rm : Room) (Pc : Array Value → State → Prop) (Qc : Array Value → State → Outcome → State → Prop) (XC : String → State → State → Prop) (mc ms : Nat) (free : Addr → Prop) : Prop :=
  MetFree l y (headSpec ws rm) Pc (fun _ _ _ _ _ => True) (vx_Q Qc XC mc ms free)
def vx_Post (XC : String → State → State → Prop) (mc ms : Nat) (free : Addr → Prop) : Pt → Array Value → Addr → Pt → Prop := fun A a q B =>
  ∃ (g : JFrame) (mk : MethodId) (t : State) (L : List Loc) (E : String) (ce : Cell), B.U.heap = t.heap ∧ B.U.vm = t.vm ∧ XC E (A.U.calling g mk a) t ∧ t.heap[q]? = some ce ∧ ce.vm = .none ∧ A.U.vm.findClass E = some ce.cls ∧ B.locs = A.locs ++ L ∧ (∀ z ∈ L, free z.base) ∧ B.cells = A.cells + mc ∧ B.slots = A.slots + ms
def vx_Back (l : Launch) (R : Room) (p : Program) (e : Env) (below : List Frame) (s : State) (sargs : Array Value) (y : MethodName) (len W9 : Nat)
    (Pre : Pt → Array Value → Prop) (Post : Pt → Array Value → Option Value → Pt → Prop) (PostX : Pt → Array Value → Addr → Pt → Prop) : Prop :=
  ∀ (m : MethodId) (meth : Method) (c : Code) (A : Pt) (g : JFrame) (ig : Instr) (mk : MethodId) (a : Array Value),
    Stand p l e R s m sargs below meth c A.U A.locs A.cells A.slots → g.method = m → g.locals.size = c.maxLocals → decode c.code g.pc = .ok (ig, len) →
    2 * g.monitorRoom + (g.stack.map fun v => v.category).sum ≤ W9 → A.U.methodNamed? y = some mk → Pre A a →
    (∃ (v : Option Value) (B : Pt), Stand p l e R s m sargs below meth c B.U B.locs B.cells B.slots ∧ Post A a v B ∧
      Steps p.tables e below (doInvoke e (A.U.setTop g) [] mk a).1 (B.U.setTop { g with pc := g.pc + len, stack := v.toList ++ g.stack })) ∨
    (∃ (q : Addr) (B : Pt), Stand p l e R s m sargs below meth c B.U B.locs B.cells B.slots ∧ PostX A a q B ∧
      Steps p.tables e below (doInvoke e (A.U.setTop g) [] mk a).1 ((B.U.setTop g).pushFrame (.throwing q)))
section Payer
variable {l : Launch} {R : Room} {p : Program} {e : Env} {below : List Frame} {s : State} {sargs : Array Value} {y : MethodName} {len W9 : Nat}
theorem vx_back {ws : List Cond} {rm : Room} {Pc : Array Value → State → Prop} {Qc : Array Value → State → Outcome → State → Prop} {XC : String → State → State → Prop} {mc ms : Nat} {free : Addr → Prop} {bytes : ByteArray} {maxL : Nat} {ret : Option FieldType}
    (hM : vx_Met l y ws rm Pc Qc XC mc ms free) (hblind : FrameBlind Pc) (hrc : rm.cells = mc) (hrs : rm.slots = ms)
    (hframes : rm.frames + 1 ≤ R.frames) (hlocals : W9 + (maxL + 11) + rm.locals ≤ R.locals)
    (hws : ∀ w ∈ ws, ∀ a' U, s.WarmedH U.vm → w.before a' U = true) (hcode : Cond.code y bytes maxL ret ∈ ws) (hinit : ∀ a' U, s.WarmedH U.vm → (Cond.initialized y.cls).before a' U = true) :
    vx_Back l R p e below s sargs y len W9 (PreOf R mc ms Pc) (PostOf Qc mc ms free) (vx_Post XC mc ms free) := by
  intro m meth c A g ig mk a X hg hsize hdg hW hn hp
  have h1 : (headSpec ws rm).pre.before a A.U = true := atoms_intro fun w hw => hws w hw _ _ X.warmed
  have h2 : (Cond.code y bytes maxL ret).before a A.U = true := hws _ hcode _ _ X.warmed
  have h3 : (Cond.initialized y.cls).before a A.U = true := hinit _ _ X.warmed
  have h4 : A.cells + (headSpec ws rm).room.cells ≤ R.cells := by rw [show (headSpec ws rm).room.cells = mc from hrc]; exact hp.1
  have h5 : A.slots + (headSpec ws rm).room.slots ≤ R.slots := by rw [show (headSpec ws rm).room.slots = ms from hrs]; exact hp.2.1
  have hPc : Pc a (A.U.calling g mk a) := hblind _ _ _ _ hp.2.2
  obtain ⟨U, Ls, c0, s0⟩ := A
  dsimp only [Pt.U, Pt.locs, Pt.cells, Pt.slots] at h1 h2 h3 h4 h5 X hn hPc ⊢
  obtain ⟨methY, cY, hmY, hcY, -, hlY, -, -, -, -⟩ := Cond.code_spec hn h2
  obtain ⟨kY, hkY, -⟩ := className_of_methodNamed hn
  have hinitY : kY.init = .initialized := Cond.initialized_spec (findClass_of_methodNamed hn) hkY h3
  have h : At U g.method c below := by rw [hg]; exact X.here
  have hlocals9 : W9 + (maxL + 11) + (headSpec ws rm).room.locals ≤ R.locals := hlocals
  have happ : (headSpec ws rm).appliesLoose y e.platform (U.calling g mk a) = true :=
    Spec.appliesLoose_calling (g := g) h hdg hn hkY hinitY
      (X.room_calling (g := g) (R' := (headSpec ws rm).room) hsize hmY hcY hframes (by rw [hlY]; omega) h4 h5) h1
  obtain ⟨mid, hmid⟩ := h.above
  have hfr : (U.setTop g).frames = (.java g :: mid) ++ below := by rw [State.frames_setTop' g h.top, hmid]; rfl
  obtain ⟨o, s₂, hsteps, -, hend, hq⟩ := Steps.callFree hM p X.admits X.cas X.clock (acts := []) hfr happ hPc trivial
  have hq' : vx_Q Qc XC mc ms free a (U.calling g mk a) o s₂ := hq
  rw [State.frames_setTop' g h.top] at hend
  obtain ⟨g₀, hg0⟩ := Option.isSome_iff_exists.mp h.top
  obtain ⟨r, hr⟩ := State.topJava?_eq_some.mp hg0
  have hr' : (({ U with heap := s₂.heap, slotsUsed := s₂.slotsUsed } : State).setVm s₂.vm).frames = .java g₀ :: r := hr
  rcases hq' with ⟨hqc, L, hfe, hL⟩ | ⟨q, rfl, E, ce, L, hx, hce, hcv, hcl, hW₂, hsm, hL⟩
  · obtain ⟨⟨v, rfl⟩, hW₂, e2, q2, q3, q4, q5, q6⟩ := id hfe
    have e3 : s₂ = ({ (U.calling g mk a).setFrames s₂.frames with heap := s₂.heap, slotsUsed := s₂.slotsUsed } : State).setVm s₂.vm := by
      have : s₂ = ({ s₂ with vm := (U.calling g mk a).vm } : State).setVm s₂.vm := rfl
      rw [e2] at this
      exact this
    obtain ⟨c₂, i₂, len₂, hc₂, hd₂, hf₂⟩ := hend
    have hW' : U.WarmedH s₂.vm := hW₂
    have hcc : c₂ = c := by
      have h1 : s₂.code? g.method = U.code? g.method := by
        rw [State.code?_eq, State.code?_eq, hW'.alike.method?]
      exact Option.some.inj (hc₂.symm.trans (h1.trans h.code))
    subst hcc
    have hlen : len₂ = len := by rw [hdg] at hd₂; cases hd₂; rfl
    subst hlen
    have hs₂ : s₂ = (({ U with heap := s₂.heap, slotsUsed := s₂.slotsUsed } : State).setVm s₂.vm).setTop { g with pc := g.pc + len₂, stack := v.toList ++ g.stack } := by
      refine e3.trans ?_
      rw [hf₂, State.calling_eq h.top, State.setFrames_setFrames, State.setTop_of_frames _ hr', hr]
      rfl
    have hsame : U.sameButNew ({ U with heap := s₂.heap, slotsUsed := s₂.slotsUsed } : State) L mc ms := by
      refine ⟨?_, q2, q3, q4, q5, q6⟩
      obtain ⟨t, ht, -⟩ := State.frames_cons hr
      show ({ U with heap := s₂.heap, slotsUsed := s₂.slotsUsed } : State) = { U.setFrames U.frames with heap := s₂.heap, slotsUsed := s₂.slotsUsed }
      rw [State.setFrames_self ht]
    subst hg
    refine Or.inl ⟨v, ⟨(({ U with heap := s₂.heap, slotsUsed := s₂.slotsUsed } : State).setVm s₂.vm), Ls ++ L, c0 + mc, s0 + ms⟩,
      ⟨X.admits, X.cas, X.clock, X.frames, X.room, X.hears, X.method, X.code, (X.here.setHeapUsed s₂.heap s₂.slotsUsed).setVm hW'.alike, X.tail, State.WarmedH.trans X.warmed hW', X.limits, X.bytes, X.same.trans (hsame.setVm s.vm)⟩,
      ⟨g, mk, s₂, L, rfl, rfl, hqc, rfl, hL, rfl, rfl⟩, ?_⟩
    show Steps p.tables e below _ ((({ U with heap := s₂.heap, slotsUsed := s₂.slotsUsed } : State).setVm s₂.vm).setTop { g with pc := g.pc + len₂, stack := v.toList ++ g.stack })
    rw [← hs₂]
    exact hsteps
  · obtain ⟨e2, q2, q3, q4, q5, q6⟩ := id hsm
    have e3 : s₂ = ({ (U.calling g mk a).setFrames s₂.frames with heap := s₂.heap, slotsUsed := s₂.slotsUsed } : State).setVm s₂.vm := by
      have : s₂ = ({ s₂ with vm := (U.calling g mk a).vm } : State).setVm s₂.vm := rfl
      rw [e2] at this
      exact this
    have hf₂ : s₂.frames = .throwing q :: .java g :: U.frames.tail := hend
    have hW' : U.WarmedH s₂.vm := hW₂
    have hs₂ : s₂ = ((({ U with heap := s₂.heap, slotsUsed := s₂.slotsUsed } : State).setVm s₂.vm).setTop g).pushFrame (.throwing q) := by
      refine e3.trans ?_
      rw [hf₂, State.calling_eq h.top, State.setFrames_setFrames, State.pushFrame, State.frames_setTop _ hr', State.setTop_of_frames _ hr', State.setFrames_setFrames, hr]
      rfl
    have hsame : U.sameButNew ({ U with heap := s₂.heap, slotsUsed := s₂.slotsUsed } : State) L mc ms := by
      refine ⟨?_, q2, q3, q4, q5, q6⟩
      obtain ⟨t, ht, -⟩ := State.frames_cons hr
      show ({ U with heap := s₂.heap, slotsUsed := s₂.slotsUsed } : State) = { U.setFrames U.frames with heap := s₂.heap, slotsUsed := s₂.slotsUsed }
      rw [State.setFrames_self ht]
    subst hg
    refine Or.inr ⟨q, ⟨(({ U with heap := s₂.heap, slotsUsed := s₂.slotsUsed } : State).setVm s₂.vm), Ls ++ L, c0 + mc, s0 + ms⟩,
      ⟨X.admits, X.cas, X.clock, X.frames, X.room, X.hears, X.method, X.code, (X.here.setHeapUsed s₂.heap s₂.slotsUsed).setVm hW'.alike, X.tail, State.WarmedH.trans X.warmed hW', X.limits, X.bytes, X.same.trans (hsame.setVm s.vm)⟩,
      ⟨g, mk, s₂, L, E, ce, rfl, rfl, hx, hce, hcv, hcl, rfl, hL, rfl, rfl⟩, ?_⟩
    show Steps p.tables e below _ (((({ U with heap := s₂.heap, slotsUsed := s₂.slotsUsed } : State).setVm s₂.vm).setTop g).pushFrame (.throwing q))
    rw [← hs₂]
    exact hsteps
end Payer
section Calls
variable {p : Program} {l : Launch} {e : Env} {R : Room} {s : State} {m : MethodId} {args : Array Value} {below : List Frame} {meth : Method} {c : Code} {T : State} {locs : List Loc} {cells slots : Nat}
theorem vx_callV (X : Stand p l e R s m args below meth c T locs cells slots) (hexec : p.tables.exec = Jvm.exec) {own C : String} {index : Nat} {y : MethodName} {bytes : ByteArray} {maxL : Nat} {ret : Option FieldType}
    (hown : s.vm.findClass own = some m.cls) (hlink : (Cond.methodLink own index y).before args s = true) (hinst : (Cond.instanceMethod y).before args s = true) (hsel : (Cond.selects C y y).before args s = true)
    (hcode : (Cond.code y bytes maxL ret).before args s = true) (hy : y.cls ≠ "java/lang/invoke/MethodHandle" ∧ y.cls ≠ "java/lang/invoke/VarHandle")
    {W9 : Nat} {Pre : Pt → Array Value → Prop} {Post : Pt → Array Value → Option Value → Pt → Prop} {PostX : Pt → Array Value → Addr → Pt → Prop} (hK : vx_Back l R p e below s args y 3 W9 Pre Post PostX)
    {b : Addr} {cellB : Cell} (hcell : T.heap[b]? = some cellB) (hobj : cellB.vm.isStatics = false) (hcls : s.vm.findClass C = some cellB.cls)
    {g : JFrame} (hg : g.method = m) (hsize : g.locals.size = c.maxLocals) {argsL rest : List Value} (hlen : ∀ sig, parseMethodDescriptor y.desc = some sig → argsL.length = sig.parameters.length)
    (hstack : g.stack = argsL.reverse ++ .ref b :: rest) (hW : 2 * g.monitorRoom + (rest.map fun v => v.category).sum ≤ W9) (hdg : decode c.code g.pc = .ok (.invokevirtual index, 3))
    (hpre : ∀ vm₁, s.WarmedH vm₁ → Pre ⟨T.setVm vm₁, locs, cells, slots⟩ (Value.ref b :: argsL).toArray) :
    (∃ (v : Option Value) (vm₁ : Vm) (B : Pt), s.WarmedH vm₁ ∧ Stand p l e R s m args below meth c B.U B.locs B.cells B.slots ∧ Post ⟨T.setVm vm₁, locs, cells, slots⟩ (Value.ref b :: argsL).toArray v B ∧
      ∀ target, Steps p.tables e below (B.U.setTop { g with pc := g.pc + 3, stack := v.toList ++ rest }) target → Steps p.tables e below (T.setTop g) target) ∨
    (∃ (q : Addr) (vm₁ : Vm) (B : Pt), s.WarmedH vm₁ ∧ Stand p l e R s m args below meth c B.U B.locs B.cells B.slots ∧ PostX ⟨T.setVm vm₁, locs, cells, slots⟩ (Value.ref b :: argsL).toArray q B ∧
      Steps p.tables e below (T.setTop g) ((B.U.setTop { g with stack := rest }).pushFrame (.throwing q))) := by
  obtain ⟨mk, methM, hnamed, hmethM, hstM, habM⟩ := Cond.instanceMethod_spec hinst
  obtain ⟨methM', cM, hmethM', -, -, -, -, -, -, hsigM⟩ := Cond.code_spec hnamed hcode
  cases hmethM.symm.trans hmethM'
  obtain ⟨c2, r2, m2, q1, q2, q3, q4, kP, hkP, hkPi⟩ := Cond.selects_spec hsel
  cases hcls.symm.trans q1
  cases (State.methodFound?_of_named hnamed hy).symm.trans q2
  cases hnamed.symm.trans q3
  have hselP : selectMethod e.platform s.vm cellB.cls mk = .method mk := by rw [Launch.admits_selectMethod X.admits]; exact q4
  obtain ⟨vm₁, X₁, hstep₁⟩ := X.invokevirtual hexec hown hlink hnamed hmethM hstM hkP hkPi hy (a := b) (cell := cellB) hcell
    (fun z h => by rw [h] at hobj; cases hobj) hselP hmethM habM hkP hkPi (g := g) hg (argsL := argsL) (rest := rest) (hlen _ hsigM) hstack hdg
  rcases hK m meth c ⟨T.setVm vm₁, locs, cells, slots⟩ { g with stack := rest } (.invokevirtual index) mk (Value.ref b :: argsL).toArray X₁ hg hsize hdg hW (X₁.named hnamed) (hpre vm₁ X₁.warmed) with ⟨v, B, X', hpost, hsteps⟩ | ⟨q, B, X', hpost, hsteps⟩
  · exact Or.inl ⟨v, vm₁, B, X₁.warmed, X', hpost, fun target h => hstep₁ _ fun acts => by rw [doInvoke_state]; exact hsteps.trans h⟩
  · exact Or.inr ⟨q, vm₁, B, X₁.warmed, X', hpost, hstep₁ _ fun acts => by rw [doInvoke_state]; exact hsteps⟩
theorem vx_callS (X : Stand p l e R s m args below meth c T locs cells slots) (hexec : p.tables.exec = Jvm.exec) {own : String} {index : Nat} {y : MethodName} {bytes : ByteArray} {maxL : Nat} {ret : Option FieldType}
    (hown : s.vm.findClass own = some m.cls) (hlink : (Cond.methodLink own index y).before args s = true) (hstat : (Cond.static y).before args s = true) (hinit : (Cond.initialized y.cls).before args s = true)
    (hcode : (Cond.code y bytes maxL ret).before args s = true) (hy : y.cls ≠ "java/lang/invoke/MethodHandle" ∧ y.cls ≠ "java/lang/invoke/VarHandle")
    {W9 : Nat} {Pre : Pt → Array Value → Prop} {Post : Pt → Array Value → Option Value → Pt → Prop} {PostX : Pt → Array Value → Addr → Pt → Prop} (hK : vx_Back l R p e below s args y 3 W9 Pre Post PostX)
    {g : JFrame} (hg : g.method = m) (hsize : g.locals.size = c.maxLocals) {argsL rest : List Value} (hlen : ∀ sig, parseMethodDescriptor y.desc = some sig → argsL.length = sig.parameters.length)
    (hstack : g.stack = argsL.reverse ++ rest) (hW : 2 * g.monitorRoom + (rest.map fun v => v.category).sum ≤ W9) (hdg : decode c.code g.pc = .ok (.invokestatic index, 3))
    (hpre : ∀ vm₁, s.WarmedH vm₁ → Pre ⟨T.setVm vm₁, locs, cells, slots⟩ argsL.toArray) :
    (∃ (v : Option Value) (vm₁ : Vm) (B : Pt), s.WarmedH vm₁ ∧ Stand p l e R s m args below meth c B.U B.locs B.cells B.slots ∧ Post ⟨T.setVm vm₁, locs, cells, slots⟩ argsL.toArray v B ∧
      ∀ target, Steps p.tables e below (B.U.setTop { g with pc := g.pc + 3, stack := v.toList ++ rest }) target → Steps p.tables e below (T.setTop g) target) ∨
    (∃ (q : Addr) (vm₁ : Vm) (B : Pt), s.WarmedH vm₁ ∧ Stand p l e R s m args below meth c B.U B.locs B.cells B.slots ∧ PostX ⟨T.setVm vm₁, locs, cells, slots⟩ argsL.toArray q B ∧
      Steps p.tables e below (T.setTop g) ((B.U.setTop { g with stack := rest }).pushFrame (.throwing q))) := by
  obtain ⟨mk, hnamed⟩ := Cond.code_named hcode
  obtain ⟨methM, cM, hmethM, -, -, -, -, -, -, hsigM⟩ := Cond.code_spec hnamed hcode
  have hstatic : methM.isStatic = true := Cond.static_spec hnamed hmethM hstat
  obtain ⟨kP, hkP, -⟩ := className_of_methodNamed hnamed
  have hinitP : kP.init = .initialized := Cond.initialized_spec (findClass_of_methodNamed hnamed) hkP hinit
  obtain ⟨vm₁, X₁, hstep₁⟩ := X.invokestatic hexec hown hlink hnamed hmethM hstatic hkP hinitP hy (g := g) hg (argsL := argsL) (rest := rest) (hlen _ hsigM) hstack hdg
  rcases hK m meth c ⟨T.setVm vm₁, locs, cells, slots⟩ { g with stack := rest } (.invokestatic index) mk argsL.toArray X₁ hg hsize hdg hW (X₁.named hnamed) (hpre vm₁ X₁.warmed) with ⟨v, B, X', hpost, hsteps⟩ | ⟨q, B, X', hpost, hsteps⟩
  · exact Or.inl ⟨v, vm₁, B, X₁.warmed, X', hpost, fun target h => hstep₁ _ fun acts => by rw [doInvoke_state]; exact hsteps.trans h⟩
  · exact Or.inr ⟨q, vm₁, B, X₁.warmed, X', hpost, hstep₁ _ fun acts => by rw [doInvoke_state]; exact hsteps⟩
end Calls
theorem vx_cls {s : State} {T : State} {vm₁ : Vm} {E : String} {k : ClassId} (hW : s.WarmedH vm₁) (h : (T.setVm vm₁).vm.findClass E = some k) : s.vm.findClass E = some k := by
  have h1 : vm₁.findClass E = some k := h
  rw [hW.alike.findClass] at h1
  exact h1
/-- the method's frame g, with q thrown over it -/
def vx_W (p : Program) (l : Launch) (e : Env) (R : Room) (s : State) (m : MethodId) (args : Array Value) (below : List Frame) (meth : Method) (c : Code) (H : Heap) (locs : List Loc) (cells slots : Nat) (Q : State → Prop) (g : JFrame) (q : Addr) : Prop :=
  ∀ T : State, T.heap = H → Stand p l e R s m args below meth c T locs cells slots → ∃ t, Steps p.tables e below ((T.setTop g).pushFrame (.throwing q)) t ∧ Q t
def vx_Run (p : Program) (l : Launch) (e : Env) (R : Room) (s : State) (m : MethodId) (args : Array Value) (below : List Frame) (meth : Method) (c : Code) (H : Heap) (locs : List Loc) (cells slots mc ms : Nat) (g : JFrame) (rest : List Value) (Qa : State → Outcome → State → Prop) (XC : String → State → State → Prop) (free : Addr → Prop) : Prop :=
  ∀ T : State, T.heap = H → Stand p l e R s m args below meth c T locs cells slots →
    (∃ (v : Option Value) (st₀ t T' : State) (L : List Loc), st₀.heap = H ∧ Stand p l e R s m args below meth c T' (locs ++ L) (cells + mc) (slots + ms) ∧ (∀ q ∈ L, free q.base) ∧ T'.heap = t.heap ∧ T'.vm = t.vm ∧ Qa st₀ (.returned v) t ∧
      Goes p e below T g T' { g with pc := g.pc + 3, stack := v.toList ++ rest }) ∨
    (∃ (q : Addr) (st₀ t T' : State) (L : List Loc) (E : String) (ce : Cell), st₀.heap = H ∧ Stand p l e R s m args below meth c T' (locs ++ L) (cells + mc) (slots + ms) ∧ (∀ z ∈ L, free z.base) ∧ T'.heap = t.heap ∧ T'.vm = t.vm ∧ XC E st₀ t ∧ t.heap[q]? = some ce ∧ ce.vm = .none ∧ s.vm.findClass E = some ce.cls ∧
      Steps p.tables e below (T.setTop g) ((T'.setTop { g with stack := rest }).pushFrame (.throwing q)))
def vx_X {S : Type} (px : S → Prop) (B : String → S → State → Prop) (A : Nat → Prop) : String → State → State → Prop := fun E st t => ∃ u : S, px u ∧ B E u t ∧ va_F A st t
section Runs
variable {p : Program} {l : Launch} {e : Env} {R : Room} {s : State} {m : MethodId} {args : Array Value} {below : List Frame} {meth : Method} {c : Code} {H : Heap} {locs : List Loc} {cells slots : Nat}
variable {y : MethodName} {bytes cc : ByteArray} {maxL nL mc ms n index : Nat} {ret : Option FieldType} {ws : List Cond} {rm : Room} {Pc : Array Value → State → Prop} {Qc : Array Value → State → Outcome → State → Prop} {XC : String → State → State → Prop} {free : Addr → Prop} {Ts : List Cond} {own C : String} {b : Addr} {As rest : List Value} {g : JFrame}
theorem vx_callBack (cb : CallB R s args own index y bytes maxL ret ws rm mc ms n) (hM : vx_Met l y ws rm Pc Qc XC mc ms free) (hbl : FrameBlind Pc) : vx_Back l R p e below s args y 3 8 (PreOf R mc ms Pc) (PostOf Qc mc ms free) (vx_Post XC mc ms free) := by
  obtain ⟨hrc, hrs, hfr, hlo, hws, hcw, -, hini, -⟩ := cb
  exact vx_back (bytes := bytes) (maxL := maxL) (ret := ret) hM hbl hrc hrs hfr hlo hws hcw (fun a' U hW => word_at hW (Or.inl (by first | rfl | simp [Cond.onTables, Cond.keeps, Cond.steady])) hini)
theorem vx_runV (S : CallFix p m c cc nL s args Ts own) (hM : vx_Met l y ws rm Pc Qc XC mc ms free) (cw : CallW R s args own C index y bytes maxL ret ws rm mc ms n) (hp : PreV s H C b Pc As)
    (hg : g.method = m) (hn : As.length = n) (hsize : g.locals.size = nL) (hstack : g.stack = As.reverse ++ .ref b :: rest) (hW : 2 * g.monitorRoom + (rest.map fun v => v.category).sum ≤ 8) (hdg : decode cc g.pc = .ok (.invokevirtual index, 3)) (hf : cells + mc ≤ R.cells ∧ slots + ms ≤ R.slots) :
    vx_Run p l e R s m args below meth c H locs cells slots mc ms g rest (Qc (Value.ref b :: As).toArray) XC free := by
  have hK : vx_Back l R p e below s args y 3 8 (PreOf R mc ms Pc) (PostOf Qc mc ms free) (vx_Post XC mc ms free) := vx_callBack cw.1 hM hp.1
  obtain ⟨⟨-, -, -, -, -, -, hcode, -, hy, hlen, hl⟩, hin, hse⟩ := cw
  obtain ⟨hx, hb, hml, ho, -⟩ := S
  obtain ⟨-, ⟨cellB, hcB, hoB, hclB⟩, hPc⟩ := hp
  intro T hT X
  rcases vx_callV X hx (C := C) (bytes := bytes) (maxL := maxL) (ret := ret) ho hl hin hse hcode hy hK (by rw [hT]; exact hcB) hoB hclB hg (hsize.trans hml.symm) (argsL := As) (rest := rest) (fun sig h => hn.trans (hlen sig h)) hstack hW (by rw [hb]; exact hdg)
    (fun vm₁ hW₁ => ⟨hf.1, hf.2, hPc (T.setVm vm₁) hT hW₁⟩) with ⟨v, vm₁, ⟨U', l2, c2, s2⟩, hW₁, X', ⟨g', mk, t, L, e1, e2, hq, h1, hL, h2, h3⟩, st⟩ | ⟨q, vm₁, ⟨U', l2, c2, s2⟩, hW₁, X', ⟨g', mk, t, L, E, ce, e1, e2, hq, hce, hcv, hcl, h1, hL, h2, h3⟩, st⟩
  · dsimp only [Pt.U, Pt.locs, Pt.cells, Pt.slots] at X' e1 e2 h1 h2 h3 st
    subst h1; subst h2; subst h3
    exact Or.inl ⟨v, (T.setVm vm₁).calling g' mk (Value.ref b :: As).toArray, t, U', L, hT, X', hL, e1, e2, hq, st⟩
  · dsimp only [Pt.U, Pt.locs, Pt.cells, Pt.slots] at X' e1 e2 h1 h2 h3 st hcl
    subst h1; subst h2; subst h3
    exact Or.inr ⟨q, (T.setVm vm₁).calling g' mk (Value.ref b :: As).toArray, t, U', L, E, ce, hT, X', hL, e1, e2, hq, hce, hcv, vx_cls hW₁ hcl, st⟩
theorem vx_runS (S : CallFix p m c cc nL s args Ts own) (hM : vx_Met l y ws rm Pc Qc XC mc ms free) (cw : CallB R s args own index y bytes maxL ret ws rm mc ms n ∧ (Cond.static y).before args s = true) (hp : PreS s H Pc As)
    (hg : g.method = m) (hn : As.length = n) (hsize : g.locals.size = nL) (hstack : g.stack = As.reverse ++ rest) (hW : 2 * g.monitorRoom + (rest.map fun v => v.category).sum ≤ 8) (hdg : decode cc g.pc = .ok (.invokestatic index, 3)) (hf : cells + mc ≤ R.cells ∧ slots + ms ≤ R.slots) :
    vx_Run p l e R s m args below meth c H locs cells slots mc ms g rest (Qc As.toArray) XC free := by
  have hK : vx_Back l R p e below s args y 3 8 (PreOf R mc ms Pc) (PostOf Qc mc ms free) (vx_Post XC mc ms free) := vx_callBack cw.1 hM hp.1
  obtain ⟨⟨-, -, -, -, -, -, hcode, hini, hy, hlen, hl⟩, hstt⟩ := cw
  obtain ⟨hx, hb, hml, ho, -⟩ := S
  intro T hT X
  rcases vx_callS X hx (bytes := bytes) (maxL := maxL) (ret := ret) ho hl hstt hini hcode hy hK hg (hsize.trans hml.symm) (argsL := As) (rest := rest) (fun sig h => hn.trans (hlen sig h)) hstack hW (by rw [hb]; exact hdg)
    (fun vm₁ hW₁ => ⟨hf.1, hf.2, hp.2 (T.setVm vm₁) hT hW₁⟩) with ⟨v, vm₁, ⟨U', l2, c2, s2⟩, hW₁, X', ⟨g', mk, t, L, e1, e2, hq, h1, hL, h2, h3⟩, st⟩ | ⟨q, vm₁, ⟨U', l2, c2, s2⟩, hW₁, X', ⟨g', mk, t, L, E, ce, e1, e2, hq, hce, hcv, hcl, h1, hL, h2, h3⟩, st⟩
  · dsimp only [Pt.U, Pt.locs, Pt.cells, Pt.slots] at X' e1 e2 h1 h2 h3 st
    subst h1; subst h2; subst h3
    exact Or.inl ⟨v, (T.setVm vm₁).calling g' mk As.toArray, t, U', L, hT, X', hL, e1, e2, hq, st⟩
  · dsimp only [Pt.U, Pt.locs, Pt.cells, Pt.slots] at X' e1 e2 h1 h2 h3 st hcl
    subst h1; subst h2; subst h3
    exact Or.inr ⟨q, (T.setVm vm₁).calling g' mk As.toArray, t, U', L, E, ce, hT, X', hL, e1, e2, hq, hce, hcv, vx_cls hW₁ hcl, st⟩
end Runs
section Rows
variable {p : Program} {l : Launch} {e : Env} {R : Room} {s : State} {m : MethodId} {args : Array Value} {below : List Frame} {meth : Method} {c : Code} {H : Heap} {locs : List Loc} {cells slots : Nat} {Q : State → Prop}
variable {mc ms : Nat} {free : Addr → Prop} {A0 A1 : Nat → Prop} {H0 : Heap} {a : Array Value} {pc : Nat} {ls : Array Slot} {st0 rest : List Value}
theorem vx_keep {st₀ t T' : State} {L : List Loc} (h0 : st₀.heap = H) (e1 : T'.heap = t.heap) (hS : va_S A0 H0 H locs) (hA : ∀ q, q < H.size → A1 q → A0 q) (hf : ∀ q, free q → A0 q) (hL : ∀ q ∈ L, free q.base) (hF : va_F A1 st₀ t) :
    H.size ≤ T'.heap.size ∧ (∀ q : Nat, q < H.size → ¬ A1 q → T'.heap[q]? = H[q]?) ∧ va_S A0 H0 T'.heap (locs ++ L) := by
  obtain ⟨hz, hk⟩ := hF
  rw [h0] at hz hk
  exact ⟨by rw [e1]; exact hz, fun q h1 h2 => by rw [e1]; exact hk q h1 h2,
    ⟨Nat.le_trans hS.1 (by rw [e1]; exact hz), fun q h1 h2 => by rw [e1, hk q (Nat.lt_of_lt_of_le h1 hS.1) (fun z => h2 (hA q (Nat.lt_of_lt_of_le h1 hS.1) z))]; exact hS.2.1 q h1 h2, fun q hq => by
      rcases List.mem_append.mp hq with h | h
      · exact hS.2.2 q h
      · exact hf _ (hL q h)⟩⟩
theorem vx_calli {S SX : Type} {post : Int32 → S → Prop} {px : SX → Prop} {B : S → State → Prop} {BX : String → SX → State → Prop} {AX : Nat → Prop} (hr : vx_Run p l e R s m args below meth c H locs cells slots mc ms (F0 m pc ls st0) rest (va_Qi post B A1 a) (vx_X px BX AX) free) (hS : va_S A0 H0 H locs) (hA : ∀ q, q < H.size → A1 q → A0 q) (hf : ∀ q, free q → A0 q) (hAX : ∀ q, q < H.size → AX q → A0 q)
    (kx : ∀ (E : String) (ce : Cell) (q9 : Addr) (u : SX) (t : State) (H1 : Heap) (locs1 : List Loc), t.heap = H1 → s.vm.Alike t.vm → px u → BX E u t → H.size ≤ H1.size → (∀ q : Nat, q < H.size → ¬ AX q → H1[q]? = H[q]?) → va_S A0 H0 H1 locs1 → H1[q9]? = some ce → ce.vm = .none → s.vm.findClass E = some ce.cls → vx_W p l e R s m args below meth c H1 locs1 (cells + mc) (slots + ms) Q (F0 m pc ls rest) q9)
    (kk : ∀ (r : Int32) (u : S) (t : State) (H1 : Heap) (locs1 : List Loc), t.heap = H1 → s.vm.Alike t.vm → post r u → B u t → H.size ≤ H1.size → (∀ q : Nat, q < H.size → ¬ A1 q → H1[q]? = H[q]?) → va_S A0 H0 H1 locs1 → W p l e R s m args below meth c H1 locs1 (cells + mc) (slots + ms) Q (F0 m (pc + 3) ls (.int r :: rest))) : W p l e R s m args below meth c H locs cells slots Q (F0 m pc ls st0) := by
  intro T hT X
  rcases hr T hT X with ⟨v, st₀, t, T', L, h0, X', hL, e1, e2, ⟨⟨r, u, hv, hp, hb⟩, hF⟩, st⟩ | ⟨q, st₀, t, T', L, E, ce, h0, X', hL, e1, e2, ⟨u, hp, hb, hF⟩, hce, hcv, hcl, st⟩
  · cases hv
    obtain ⟨k1, k2, k3⟩ := vx_keep h0 e1 hS hA hf hL hF
    obtain ⟨t2, a1, b1⟩ := kk r u t T'.heap (locs ++ L) e1.symm (by rw [← e2]; exact X'.warmed.alike) hp hb k1 k2 k3 T' rfl X'
    exact ⟨t2, st t2 a1, b1⟩
  · obtain ⟨k1, k2, k3⟩ := vx_keep h0 e1 hS hAX hf hL hF
    obtain ⟨t2, a1, b1⟩ := kx E ce q u t T'.heap (locs ++ L) e1.symm (by rw [← e2]; exact X'.warmed.alike) hp hb k1 k2 k3 (by rw [e1]; exact hce) hcv hcl T' rfl X'
    exact ⟨t2, st.trans a1, b1⟩
theorem vx_calll {S SX : Type} {post : Int64 → S → Prop} {px : SX → Prop} {B : S → State → Prop} {BX : String → SX → State → Prop} {AX : Nat → Prop} (hr : vx_Run p l e R s m args below meth c H locs cells slots mc ms (F0 m pc ls st0) rest (va_Ql post B A1 a) (vx_X px BX AX) free) (hS : va_S A0 H0 H locs) (hA : ∀ q, q < H.size → A1 q → A0 q) (hf : ∀ q, free q → A0 q) (hAX : ∀ q, q < H.size → AX q → A0 q)
    (kx : ∀ (E : String) (ce : Cell) (q9 : Addr) (u : SX) (t : State) (H1 : Heap) (locs1 : List Loc), t.heap = H1 → s.vm.Alike t.vm → px u → BX E u t → H.size ≤ H1.size → (∀ q : Nat, q < H.size → ¬ AX q → H1[q]? = H[q]?) → va_S A0 H0 H1 locs1 → H1[q9]? = some ce → ce.vm = .none → s.vm.findClass E = some ce.cls → vx_W p l e R s m args below meth c H1 locs1 (cells + mc) (slots + ms) Q (F0 m pc ls rest) q9)
    (kk : ∀ (r : Int64) (u : S) (t : State) (H1 : Heap) (locs1 : List Loc), t.heap = H1 → s.vm.Alike t.vm → post r u → B u t → H.size ≤ H1.size → (∀ q : Nat, q < H.size → ¬ A1 q → H1[q]? = H[q]?) → va_S A0 H0 H1 locs1 → W p l e R s m args below meth c H1 locs1 (cells + mc) (slots + ms) Q (F0 m (pc + 3) ls (.long r :: rest))) : W p l e R s m args below meth c H locs cells slots Q (F0 m pc ls st0) := by
  intro T hT X
  rcases hr T hT X with ⟨v, st₀, t, T', L, h0, X', hL, e1, e2, ⟨⟨r, u, hv, hp, hb⟩, hF⟩, st⟩ | ⟨q, st₀, t, T', L, E, ce, h0, X', hL, e1, e2, ⟨u, hp, hb, hF⟩, hce, hcv, hcl, st⟩
  · cases hv
    obtain ⟨k1, k2, k3⟩ := vx_keep h0 e1 hS hA hf hL hF
    obtain ⟨t2, a1, b1⟩ := kk r u t T'.heap (locs ++ L) e1.symm (by rw [← e2]; exact X'.warmed.alike) hp hb k1 k2 k3 T' rfl X'
    exact ⟨t2, st t2 a1, b1⟩
  · obtain ⟨k1, k2, k3⟩ := vx_keep h0 e1 hS hAX hf hL hF
    obtain ⟨t2, a1, b1⟩ := kx E ce q u t T'.heap (locs ++ L) e1.symm (by rw [← e2]; exact X'.warmed.alike) hp hb k1 k2 k3 (by rw [e1]; exact hce) hcv hcl T' rfl X'
    exact ⟨t2, st.trans a1, b1⟩
theorem vx_callf {S SX : Type} {post : UInt32 → S → Prop} {px : SX → Prop} {B : S → State → Prop} {BX : String → SX → State → Prop} {AX : Nat → Prop} (hr : vx_Run p l e R s m args below meth c H locs cells slots mc ms (F0 m pc ls st0) rest (va_Qf post B A1 a) (vx_X px BX AX) free) (hS : va_S A0 H0 H locs) (hA : ∀ q, q < H.size → A1 q → A0 q) (hf : ∀ q, free q → A0 q) (hAX : ∀ q, q < H.size → AX q → A0 q)
    (kx : ∀ (E : String) (ce : Cell) (q9 : Addr) (u : SX) (t : State) (H1 : Heap) (locs1 : List Loc), t.heap = H1 → s.vm.Alike t.vm → px u → BX E u t → H.size ≤ H1.size → (∀ q : Nat, q < H.size → ¬ AX q → H1[q]? = H[q]?) → va_S A0 H0 H1 locs1 → H1[q9]? = some ce → ce.vm = .none → s.vm.findClass E = some ce.cls → vx_W p l e R s m args below meth c H1 locs1 (cells + mc) (slots + ms) Q (F0 m pc ls rest) q9)
    (kk : ∀ (r : UInt32) (u : S) (t : State) (H1 : Heap) (locs1 : List Loc), t.heap = H1 → s.vm.Alike t.vm → post r u → B u t → H.size ≤ H1.size → (∀ q : Nat, q < H.size → ¬ A1 q → H1[q]? = H[q]?) → va_S A0 H0 H1 locs1 → W p l e R s m args below meth c H1 locs1 (cells + mc) (slots + ms) Q (F0 m (pc + 3) ls (.float r :: rest))) : W p l e R s m args below meth c H locs cells slots Q (F0 m pc ls st0) := by
  intro T hT X
  rcases hr T hT X with ⟨v, st₀, t, T', L, h0, X', hL, e1, e2, ⟨⟨r, u, hv, hp, hb⟩, hF⟩, st⟩ | ⟨q, st₀, t, T', L, E, ce, h0, X', hL, e1, e2, ⟨u, hp, hb, hF⟩, hce, hcv, hcl, st⟩
  · cases hv
    obtain ⟨k1, k2, k3⟩ := vx_keep h0 e1 hS hA hf hL hF
    obtain ⟨t2, a1, b1⟩ := kk r u t T'.heap (locs ++ L) e1.symm (by rw [← e2]; exact X'.warmed.alike) hp hb k1 k2 k3 T' rfl X'
    exact ⟨t2, st t2 a1, b1⟩
  · obtain ⟨k1, k2, k3⟩ := vx_keep h0 e1 hS hAX hf hL hF
    obtain ⟨t2, a1, b1⟩ := kx E ce q u t T'.heap (locs ++ L) e1.symm (by rw [← e2]; exact X'.warmed.alike) hp hb k1 k2 k3 (by rw [e1]; exact hce) hcv hcl T' rfl X'
    exact ⟨t2, st.trans a1, b1⟩
theorem vx_calld {S SX : Type} {post : UInt64 → S → Prop} {px : SX → Prop} {B : S → State → Prop} {BX : String → SX → State → Prop} {AX : Nat → Prop} (hr : vx_Run p l e R s m args below meth c H locs cells slots mc ms (F0 m pc ls st0) rest (va_Qd post B A1 a) (vx_X px BX AX) free) (hS : va_S A0 H0 H locs) (hA : ∀ q, q < H.size → A1 q → A0 q) (hf : ∀ q, free q → A0 q) (hAX : ∀ q, q < H.size → AX q → A0 q)
    (kx : ∀ (E : String) (ce : Cell) (q9 : Addr) (u : SX) (t : State) (H1 : Heap) (locs1 : List Loc), t.heap = H1 → s.vm.Alike t.vm → px u → BX E u t → H.size ≤ H1.size → (∀ q : Nat, q < H.size → ¬ AX q → H1[q]? = H[q]?) → va_S A0 H0 H1 locs1 → H1[q9]? = some ce → ce.vm = .none → s.vm.findClass E = some ce.cls → vx_W p l e R s m args below meth c H1 locs1 (cells + mc) (slots + ms) Q (F0 m pc ls rest) q9)
    (kk : ∀ (r : UInt64) (u : S) (t : State) (H1 : Heap) (locs1 : List Loc), t.heap = H1 → s.vm.Alike t.vm → post r u → B u t → H.size ≤ H1.size → (∀ q : Nat, q < H.size → ¬ A1 q → H1[q]? = H[q]?) → va_S A0 H0 H1 locs1 → W p l e R s m args below meth c H1 locs1 (cells + mc) (slots + ms) Q (F0 m (pc + 3) ls (.double r :: rest))) : W p l e R s m args below meth c H locs cells slots Q (F0 m pc ls st0) := by
  intro T hT X
  rcases hr T hT X with ⟨v, st₀, t, T', L, h0, X', hL, e1, e2, ⟨⟨r, u, hv, hp, hb⟩, hF⟩, st⟩ | ⟨q, st₀, t, T', L, E, ce, h0, X', hL, e1, e2, ⟨u, hp, hb, hF⟩, hce, hcv, hcl, st⟩
  · cases hv
    obtain ⟨k1, k2, k3⟩ := vx_keep h0 e1 hS hA hf hL hF
    obtain ⟨t2, a1, b1⟩ := kk r u t T'.heap (locs ++ L) e1.symm (by rw [← e2]; exact X'.warmed.alike) hp hb k1 k2 k3 T' rfl X'
    exact ⟨t2, st t2 a1, b1⟩
  · obtain ⟨k1, k2, k3⟩ := vx_keep h0 e1 hS hAX hf hL hF
    obtain ⟨t2, a1, b1⟩ := kx E ce q u t T'.heap (locs ++ L) e1.symm (by rw [← e2]; exact X'.warmed.alike) hp hb k1 k2 k3 (by rw [e1]; exact hce) hcv hcl T' rfl X'
    exact ⟨t2, st.trans a1, b1⟩
theorem vx_callv {S SX : Type} {post : S → Prop} {px : SX → Prop} {B : S → State → Prop} {BX : String → SX → State → Prop} {AX : Nat → Prop} (hr : vx_Run p l e R s m args below meth c H locs cells slots mc ms (F0 m pc ls st0) rest (va_Qv post B A1 a) (vx_X px BX AX) free) (hS : va_S A0 H0 H locs) (hA : ∀ q, q < H.size → A1 q → A0 q) (hf : ∀ q, free q → A0 q) (hAX : ∀ q, q < H.size → AX q → A0 q)
    (kx : ∀ (E : String) (ce : Cell) (q9 : Addr) (u : SX) (t : State) (H1 : Heap) (locs1 : List Loc), t.heap = H1 → s.vm.Alike t.vm → px u → BX E u t → H.size ≤ H1.size → (∀ q : Nat, q < H.size → ¬ AX q → H1[q]? = H[q]?) → va_S A0 H0 H1 locs1 → H1[q9]? = some ce → ce.vm = .none → s.vm.findClass E = some ce.cls → vx_W p l e R s m args below meth c H1 locs1 (cells + mc) (slots + ms) Q (F0 m pc ls rest) q9)
    (kk : ∀ (u : S) (t : State) (H1 : Heap) (locs1 : List Loc), t.heap = H1 → s.vm.Alike t.vm → post u → B u t → H.size ≤ H1.size → (∀ q : Nat, q < H.size → ¬ A1 q → H1[q]? = H[q]?) → va_S A0 H0 H1 locs1 → W p l e R s m args below meth c H1 locs1 (cells + mc) (slots + ms) Q (F0 m (pc + 3) ls (rest))) : W p l e R s m args below meth c H locs cells slots Q (F0 m pc ls st0) := by
  intro T hT X
  rcases hr T hT X with ⟨v, st₀, t, T', L, h0, X', hL, e1, e2, ⟨⟨u, hv, hp, hb⟩, hF⟩, st⟩ | ⟨q, st₀, t, T', L, E, ce, h0, X', hL, e1, e2, ⟨u, hp, hb, hF⟩, hce, hcv, hcl, st⟩
  · cases hv
    obtain ⟨k1, k2, k3⟩ := vx_keep h0 e1 hS hA hf hL hF
    obtain ⟨t2, a1, b1⟩ := kk u t T'.heap (locs ++ L) e1.symm (by rw [← e2]; exact X'.warmed.alike) hp hb k1 k2 k3 T' rfl X'
    exact ⟨t2, st t2 a1, b1⟩
  · obtain ⟨k1, k2, k3⟩ := vx_keep h0 e1 hS hAX hf hL hF
    obtain ⟨t2, a1, b1⟩ := kx E ce q u t T'.heap (locs ++ L) e1.symm (by rw [← e2]; exact X'.warmed.alike) hp hb k1 k2 k3 (by rw [e1]; exact hce) hcv hcl T' rfl X'
    exact ⟨t2, st.trans a1, b1⟩
/-- caught by the row x of this method's table; the rows ahead don't take it -/
theorem vx_catch {own name : String} {E : String} {ce : Cell} {q : Addr} (hown : s.vm.findClass own = some m.cls) (pre : List ExceptionTableEntry) (x : ExceptionTableEntry) (suf : List ExceptionTableEntry) (hsplit : c.exceptionTable.toList = pre ++ x :: suf)
    (hpass : ∀ z ∈ pre, covers z pc = false ∨ (z.catchType ≠ 0 ∧ ∃ nm : String, (Cond.classLink own z.catchType nm).before args s = true ∧ va_Nc E nm s)) (hx : covers x pc = true) (h0 : x.catchType ≠ 0)
    (hlink : (Cond.classLink own x.catchType name).before args s = true) (hcast : (Cond.castable E name).before args s = true) (hcell : H[q]? = some ce) (hv : ce.vm = .none) (hcl : s.vm.findClass E = some ce.cls)
    (kk : W p l e R s m args below meth c H locs cells slots Q (F0 m x.handlerPc ls [.ref q])) : vx_W p l e R s m args below meth c H locs cells slots Q (F0 m pc ls rest) q := by
  intro T hT X
  have hpl : e.platform.magicAccessors = ({} : Platform).magicAccessors := by rw [X.admits.platform]
  obtain ⟨c3, c4, hc3, hc4, hasg⟩ := Cond.castable_spec hcast
  cases Option.some.inj (hc3.symm.trans hcl)
  obtain ⟨c5, hc5, hcl5⟩ := Cond.classLink_spec hown hlink e.platform hpl
  cases Option.some.inj (hc4.symm.trans hc5)
  obtain ⟨vm', X', st⟩ := X.thenCaughtThrough q (g := F0 m pc ls rest) rfl (Steps.refl _) (by rw [hT]; exact hcell) (by rw [hv]; rfl) (by obtain ⟨k9, h9, -⟩ := Vm.findClass_spec hcl; exact ⟨k9, h9⟩) pre x suf hsplit
    (fun z hz => by
      rcases hpass z hz with h | ⟨hz0, nm, hl1, hn1⟩
      · exact Or.inl h
      · obtain ⟨c6, hc6, hcl6⟩ := Cond.classLink_spec hown hl1 e.platform hpl
        obtain ⟨a8, b8, h1, h2, h3⟩ := hn1
        cases Option.some.inj (h1.symm.trans hcl)
        cases Option.some.inj (h2.symm.trans hc6)
        exact Or.inr ⟨hz0, _, hcl6, h3⟩) hx (Or.inr ⟨h0, c4, hcl5, hasg⟩)
  obtain ⟨t, a1, b1⟩ := kk (T.setVm vm') hT X'
  exact ⟨t, st.trans a1, b1⟩
end Rows
section Ends
variable {p : Program} {l : Launch} {e : Env} {R : Room} {s : State} {m : MethodId} {args : Array Value} {below : List Frame} {meth : Method} {c : Code} {H : Heap} {locs : List Loc} {cells slots : Nat} {Q : State → Prop}
variable {mc ms : Nat} {free : Addr → Prop} {A0 A1 : Nat → Prop} {H0 : Heap} {a : Array Value} {ls : Array Slot} {st0 rest : List Value}
variable {Qc : Array Value → State → Outcome → State → Prop} {XC : String → State → State → Prop}
/-- what a body that may throw owes at its end -/
def vx_MQ (below : List Frame) (Qc : Array Value → State → Outcome → State → Prop) (XC : String → State → State → Prop) (a : Array Value) (s : State) (mc ms : Nat) (free : Addr → Prop) : State → Prop := fun t =>
  ∃ o, t.status = .running ∧ Ended t below o ∧ vx_Q Qc XC mc ms free a s o t
theorem vx_ret {g : JFrame} {mc ms : Nat} (k : W p l e R s m args below meth c H locs cells slots (MQ below Qc args s mc ms free) g) : W p l e R s m args below meth c H locs cells slots (vx_MQ below Qc XC args s mc ms free) g := by
  intro T hT X
  obtain ⟨t, a1, o, b1, b2, b3, b4⟩ := k T hT X
  exact ⟨t, a1, o, b1, b2, Or.inl ⟨b3, b4⟩⟩
/-- not caught here: it goes on to the caller -/
theorem vx_widen {g : JFrame} {q : Addr} {k n : Nat} (h1 : cells ≤ k) (h2 : slots ≤ n) (kk : vx_W p l e R s m args below meth c H locs k n Q g q) : vx_W p l e R s m args below meth c H locs cells slots Q g q := fun T hT X => kk T hT (stand_widen X h1 h2)
theorem vx_out {pc : Nat} {E : String} {ce : Cell} {q : Addr} {mc ms : Nat} (hout : ∀ x ∈ c.exceptionTable.toList, covers x pc = false) (hlocks : meth.locks = false) (hcell : H[q]? = some ce) (hv : ce.vm = .none) (hcl : s.vm.findClass E = some ce.cls)
    (hx : ∀ t : State, t.heap = H → s.vm.Alike t.vm → XC E s t) (hf : ∀ z ∈ locs, free z.base) (hc : cells ≤ mc) (hs : slots ≤ ms) :
    vx_W p l e R s m args below meth c H locs cells slots (vx_MQ below Qc XC args s mc ms free) (F0 m pc ls rest) q := by
  intro T hT X
  obtain ⟨st1, hrun, hend, hW, hsm⟩ := X.leaveThrown q (g := F0 m pc ls rest) rfl rfl rfl hout hlocks
  have hcell9 : (T.setFrames (.throwing q :: below)).heap[q]? = some ce := by
    show T.heap[q]? = some ce
    rw [hT]; exact hcell
  exact ⟨_, st1, .threw q, hrun, hend, Or.inr ⟨q, rfl, E, ce, locs, hx _ hT hW.alike, hcell9, hv, hcl, hW, hsm.mono hc hs, hf⟩⟩
theorem vx_frame {U : State} {k n : Nat} (h : s.sameButNew ({ U with vm := s.vm } : State) locs k n) : s.heap.size ≤ U.heap.size ∧ ∀ q : Nat, q < s.heap.size → (∀ z ∈ locs, z.base ≠ q) → U.heap[q]? = s.heap[q]? := by
  obtain ⟨-, h2, -, -, -, h6⟩ := h
  refine ⟨h2, fun q hq hz => ?_⟩
  obtain ⟨c9, e1, e2, e3, e4⟩ := h6 q _ (Array.getElem?_eq_getElem hq)
  have hs : c9.slots = (s.heap[q]).slots := Array.ext_getElem? fun i => e4 i fun hm => hz _ hm rfl
  have h9 : c9 = s.heap[q] := by
    rw [hs] at e2
    exact e2
  have e5 : U.heap[q]? = some c9 := e1
  rw [e5, h9, Array.getElem?_eq_getElem hq]
/-- the words of a throw but the four that speak of the heap -/
def vx_no (w : Cond) : Bool := decide (w ≠ .isRef (.static Bundle.tN "UNASSIGNED_STACK" Bundle.steD)) && decide (w ≠ .isRef (.static Bundle.tN "SUPPRESSED_SENTINEL" Bundle.listD)) && decide (w ≠ .laysStatic Bundle.tN "UNASSIGNED_STACK" Bundle.steD) && decide (w ≠ .laysStatic Bundle.tN "SUPPRESSED_SENTINEL" Bundle.listD)
def vx_at0 (own : String) (ic : Nat) (X : String) (names : List String) : List Cond := (Bundle.ownAtoms0 own ic X names).filter vx_no
def vx_atS (own : String) (ic : Nat) (X : String) (names : List String) : List Cond := (Bundle.ownAtoms own ic X names).filter vx_no
/-- a word that the tables alone decide, or a good one -/
def vx_ot (w : Cond) : Bool := w.onTables || goodWord w
theorem vx_ot_at {args a' : Array Value} {s U : State} {w : Cond} (hW : s.WarmedH U.vm) (hvm : s.vm = U.vm) (hg : vx_ot w = true) (h : w.before args s = true) : w.before a' U = true := by
  simp only [vx_ot, Bool.or_eq_true] at hg
  rcases hg with hg | hg
  · exact va_tabs hg hvm h
  · exact word_at hW (good_of_word hg) h
/-- a list's words: the good ones out of the method's own list, the others by premises of their own -/
theorem vx_hat {args : Array Value} {s : State} {L B : List Cond} (h1 : ∀ w ∈ L.filter goodWord, w.before args s = true) (h2 : ∀ w ∈ L.filter (fun w => !goodWord w), w ∈ B) (h3 : ∀ w ∈ B, w.before args s = true) : ∀ w ∈ L, w.before args s = true := by
  intro w hw
  by_cases g : goodWord w = true
  · exact h1 w (List.mem_filter.mpr ⟨hw, g⟩)
  · refine h3 w (h2 w (List.mem_filter.mpr ⟨hw, ?_⟩))
    show (!goodWord w) = true
    cases hgw : goodWord w
    · rfl
    · exact absurd hgw g
theorem vx_c {args : Array Value} {s : State} {w : Cond} {B : List Cond} (h : w.before args s = true) (t : ∀ w ∈ B, w.before args s = true) : ∀ w' ∈ w :: B, w'.before args s = true := fun w' h' => (List.mem_cons.mp h').elim (fun e => by rw [e]; exact h) (t w')
theorem vx_n {args : Array Value} {s : State} : ∀ w ∈ ([] : List Cond), w.before args s = true := fun _ h => nomatch h
theorem vx_own {args : Array Value} {s : State} {L : List Cond} (h1 : ∀ w ∈ L.filter vx_no, w.before args s = true)
    (hU : (Cond.isRef (.static Bundle.tN "UNASSIGNED_STACK" Bundle.steD)).before args s = true) (hN : (Cond.isRef (.static Bundle.tN "SUPPRESSED_SENTINEL" Bundle.listD)).before args s = true)
    (lU : (Cond.laysStatic Bundle.tN "UNASSIGNED_STACK" Bundle.steD).before args s = true) (lN : (Cond.laysStatic Bundle.tN "SUPPRESSED_SENTINEL" Bundle.listD).before args s = true) : ∀ w ∈ L, w.before args s = true := by
  intro w hw
  by_cases e1 : w = .isRef (.static Bundle.tN "UNASSIGNED_STACK" Bundle.steD)
  · rw [e1]; exact hU
  · by_cases e2 : w = .isRef (.static Bundle.tN "SUPPRESSED_SENTINEL" Bundle.listD)
    · rw [e2]; exact hN
    · by_cases e3 : w = .laysStatic Bundle.tN "UNASSIGNED_STACK" Bundle.steD
      · rw [e3]; exact lU
      · by_cases e4 : w = .laysStatic Bundle.tN "SUPPRESSED_SENTINEL" Bundle.listD
        · rw [e4]; exact lN
        · exact h1 w (List.mem_filter.mpr ⟨hw, by unfold vx_no; rw [decide_eq_true e1, decide_eq_true e2, decide_eq_true e3, decide_eq_true e4]; rfl⟩)
/-- where a static field lies, its class's statics cell in H -/
def vx_L (C n d : String) (A : Nat → Prop) (U : State) (H : Heap) : Prop := ∃ (c : ClassId) (k : Class) (i : Nat) (f : Field) (a : Nat) (cell : Cell), U.vm.findClass C = some c ∧ U.fieldFound? C n d = some (c, k, i, f) ∧ f.isStatic = true ∧ k.statics = some a ∧ H[a]? = some cell ∧ cell.vm.isStatics = true ∧ cell.cls = c ∧ f.slot < cell.slots.size ∧ k.staticTypes[f.slot]? = some f.type ∧ ¬ A a
theorem vx_L.moved {C n d : String} {A : Nat → Prop} {u U : State} {H : Heap} (hvm : u.vm.Alike U.vm) (h : vx_L C n d A u H) : vx_L C n d A U H := by
  obtain ⟨c, k, i, f, a, cell, h1, h2, h3, h4, h5, h6, h7, h8, h9, h10⟩ := h
  obtain ⟨k', hi', he⟩ := State.fieldFound?_setVm hvm h2
  exact ⟨c, k', i, f, a, cell, by rw [hvm.findClass]; exact h1, hi', h3, by rw [he]; exact h4, h5, h6, h7, h8, by rw [he]; exact h9, h10⟩
theorem vx_L.kept {C n d : String} {A : Nat → Prop} {U : State} {H H1 : Heap} (h : vx_L C n d A U H) (hq : ∀ a : Nat, a < H.size → ¬ A a → H1[a]? = H[a]?) : vx_L C n d A U H1 := by
  obtain ⟨c, k, i, f, a, cell, h1, h2, h3, h4, h5, h6, h7, h8, h9, h10⟩ := h
  exact ⟨c, k, i, f, a, cell, h1, h2, h3, h4, by rw [hq a (Array.getElem?_eq_some_iff.mp h5).1 h10]; exact h5, h6, h7, h8, h9, h10⟩
theorem vx_L.narrow {C n d : String} {A B : Nat → Prop} {U : State} {H : Heap} (h : vx_L C n d A U H) (hAB : ∀ q, B q → A q) : vx_L C n d B U H := by
  obtain ⟨c, k, i, f, a, cell, h1, h2, h3, h4, h5, h6, h7, h8, h9, h10⟩ := h
  exact ⟨c, k, i, f, a, cell, h1, h2, h3, h4, h5, h6, h7, h8, h9, fun z => h10 (hAB _ z)⟩
theorem vx_L.word {C n d : String} {A : Nat → Prop} {s : State} {args : Array Value} (h : vx_L C n d A s s.heap) : (Cond.laysStatic C n d).before args s = true := by
  obtain ⟨c, k, i, f, a, cell, h1, h2, h3, h4, h5, h6, h7, h8, h9, -⟩ := h
  show (Cond.laysStatic C n d).holds args s none s [] = true
  exact Cond.laysStatic_of h1 h2 h3 h4 h5 h6 h7 h8 h9
/-- .. and what it holds: null or some reference -/
def vx_Zq (C n d : String) (A : Nat → Prop) (U : State) (H : Heap) : Prop := va_Zq C n d A U H ∧ vx_L C n d A U H
theorem vx_Zq.moved {C n d : String} {A : Nat → Prop} {u U : State} {H : Heap} (hvm : u.vm.Alike U.vm) (h : vx_Zq C n d A u H) : vx_Zq C n d A U H := ⟨va_Zq.moved hvm h.1, vx_L.moved hvm h.2⟩
theorem vx_Zq.kept {C n d : String} {A : Nat → Prop} {U : State} {H H1 : Heap} (h : vx_Zq C n d A U H) (hq : ∀ a : Nat, a < H.size → ¬ A a → H1[a]? = H[a]?) : vx_Zq C n d A U H1 := ⟨va_Zq.kept h.1 hq, vx_L.kept h.2 hq⟩
theorem vx_Zq.narrow {C n d : String} {A B : Nat → Prop} {U : State} {H : Heap} (h : vx_Zq C n d A U H) (hAB : ∀ q, B q → A q) : vx_Zq C n d B U H := ⟨va_Zq.narrow h.1 hAB, vx_L.narrow h.2 hAB⟩
theorem vx_Zqof {args : Array Value} {s : State} {C n d : String} {A : Nat → Prop} (hl : (Cond.laysStatic C n d).before args s = true) (hini : (Cond.initialized C).before args s = true) (h : (Cond.isRef (.static C n d)).before args s = true) (hA : ∀ a : Nat, a < s.heap.size → ¬ A a) : vx_Zq C n d A s s.heap := by
  refine ⟨va_Zqof hl hini h hA, ?_⟩
  obtain ⟨c, k, i, f, a, cell, h1, h2, h3, h4, h5, h6, h7, h8, h9⟩ := Cond.laysStatic_spec hl
  exact ⟨c, k, i, f, a, cell, h1, h2, h3, h4, h5, h6, h7, h8, h9, hA a (Array.getElem?_eq_some_iff.mp h5).1⟩
theorem vx_isRef {C n d : String} {v : Value} {A : Nat → Prop} {s : State} {args : Array Value} (h : va_Z C n d v A s s.heap) (hv : v.isRef = true) : (Cond.isRef (.static C n d)).before args s = true := by
  obtain ⟨cf, kf, fi, f, a, cell, h1, h2, h3, h4, h5, h6, h7, -⟩ := h
  have he : (Term.static C n d).eval args s none [] s = some v := by
    simp [Term.eval, State.fieldNamed?, h1, h2, h4, h5, h6, h7]
  simp only [Cond.before, Cond.holds, Cond.value, he]
  cases v <;> simp_all [Value.isRef]
theorem vx_isRefq {C n d : String} {A : Nat → Prop} {s : State} {args : Array Value} (h : va_Zq C n d A s s.heap) : (Cond.isRef (.static C n d)).before args s = true := by
  rcases h with h | ⟨t, h⟩
  · exact vx_isRef h rfl
  · exact vx_isRef h rfl
/-- the same frame, seen from here: as if the method were called anew in this heap -/
theorem vx_rebase {T : State} (X : Stand p l e R s m args below meth c T locs cells slots) {R' : Room} (hf : R'.frames ≤ R.frames) (hl : R'.locals ≤ R.locals) (hc : cells + R'.cells ≤ R.cells) (hs : slots + R'.slots ≤ R.slots) :
    Stand p l e R' ((T.setVm s.vm).setFrames (.invoking m args :: below)) m args below meth c T [] 0 0 := by
  have htop : (T.setVm s.vm).topJava?.isSome := X.here.top
  have hF : ((T.setVm s.vm).setFrames (.invoking m args :: below)).frames = .invoking m args :: below := State.frames_setFrames _ (State.cur_lt_of_top htop)
  obtain ⟨g₀, hg0⟩ := Option.isSome_iff_exists.mp htop
  obtain ⟨r, hr⟩ := State.topJava?_eq_some.mp hg0
  have hl9 : e.platform.stackLimits (T.setVm s.vm).me = e.platform.stackLimits s.me := X.limits
  have hb9 : (T.setVm s.vm).me.stackBytes = s.me.stackBytes := X.bytes
  refine ⟨X.admits, X.cas, X.clock, hF, ?_, X.hears, X.method, X.code, X.here, X.tail, X.warmed, ?_, ?_, ?_⟩
  · have h := X.room
    have hU : ((T.setVm s.vm).setFrames (.invoking m args :: below)).localsInUse = s.localsInUse := by
      rw [State.localsInUse_invoking hF (meth := meth) (c := c) X.method X.code, State.localsInUse_invoking X.frames X.method X.code]
    simp only [State.hasRoom, Bool.and_eq_true, decide_eq_true_eq] at h ⊢
    obtain ⟨⟨⟨⟨h1, h2, h3, h4, h5, h6⟩, h7⟩, h8⟩, h9⟩ := h
    rw [X.frames, List.length_cons] at h2 h3
    have q1 := X.heapSize
    have q2 := X.used
    simp only [hF, hU, List.length_cons, State.stackLimits_setFrames, State.stackBytes_setFrames, hl9, hb9]
    refine ⟨⟨⟨⟨by omega, by omega, by omega, by omega, by omega, h6⟩, ?_⟩, ?_⟩, X.book⟩
    · show T.heap.size + R'.cells ≤ e.platform.maxCells
      omega
    · show T.slotsUsed + R'.slots ≤ e.platform.maxSlots
      omega
  · rw [State.stackLimits_setFrames]; rfl
  · rw [State.stackBytes_setFrames]; rfl
  · refine ⟨?_, Nat.le_refl _, Nat.le_refl _, ?_, ?_, fun a c9 h9 => ⟨c9, h9, rfl, rfl, fun _ _ => rfl⟩⟩
    · obtain ⟨t, ht, -⟩ := State.frames_cons hr
      show T.setVm s.vm = { ((T.setVm s.vm).setFrames (.invoking m args :: below)).setFrames (T.setVm s.vm).frames with heap := T.heap, slotsUsed := T.slotsUsed }
      rw [State.setFrames_setFrames, State.setFrames_self ht]
      rfl
    · show T.slotsUsed = T.slotsUsed + ((T.heap.toList.drop T.heap.size).map (·.slots.size)).sum
      rw [List.drop_eq_nil_of_le (Nat.le_of_eq Array.length_toList)]
      rfl
    · show ((T.heap.toList.drop T.heap.size).map (·.slots.size)).sum ≤ 0
      rw [List.drop_eq_nil_of_le (Nat.le_of_eq Array.length_toList)]
      exact Nat.le_refl _
/-- 'throw new E()': new; dup; invokespecial; athrow -/
theorem vx_throw0 {cc : ByteArray} {pc : Nat} (hexec : p.tables.exec = Jvm.exec) (hb : c.code = cc) (hl : l.stackTraces = false) {own cls : String} {names : List String} {ik ic mc ms : Nat} {A : Nat → Prop}
    (hown : s.vm.findClass own = some m.cls) (hcls : Bundle.fit cls = true) (hnames : ∀ n ∈ names, Bundle.fit n = true)
    (hk : (Cond.classLink own ik cls).before args s = true) (hini : (Cond.initialized cls).before args s = true) (hat : ∀ w ∈ vx_at0 own ic cls names, w.before args s = true)
    (hgood : ∀ w ∈ Cond.classLink own ik cls :: Cond.initialized cls :: vx_at0 own ic cls names, vx_ot w = true)
    (hU : vx_Zq Bundle.tN "UNASSIGNED_STACK" Bundle.steD A s s.heap) (hN : vx_Zq Bundle.tN "SUPPRESSED_SENTINEL" Bundle.listD A s s.heap) (hS : va_S A s.heap H locs) (hsize : ls.size = c.maxLocals)
    (d0 : decode cc pc = .ok (.new ik, 3)) (d3 : decode cc (pc + 3) = .ok (.dup, 1)) (d4 : decode cc (pc + 4) = .ok (.invokespecial ic, 3)) (d7 : decode cc (pc + 7) = .ok (.athrow, 1))
    (hout : ∀ x ∈ c.exceptionTable.toList, covers x (pc + 7) = false)
    (hRframes : names.length + 3 < R.frames) (hRlocals : (rest.map fun v => v.category).sum + (13 * (names.length + 1) + 42) ≤ R.locals) (hRcells : cells + 1 ≤ R.cells) (hRslots : slots + 6 ≤ R.slots) (hlocks : meth.locks = false)
    (hx : ∀ t : State, s.vm.Alike t.vm → H.size ≤ t.heap.size → (∀ q : Nat, q < H.size → t.heap[q]? = H[q]?) → XC cls s t)
    (hf : ∀ z ∈ locs, free z.base) (hc : cells + 1 ≤ mc) (hs : slots + 6 ≤ ms) :
    W p l e R s m args below meth c H locs cells slots (vx_MQ below Qc XC args s mc ms free) (F0 m pc ls rest) := by
  intro T hT X
  have htr : e.platform.stackTraces = false := (show e.platform.stackTraces = l.stackTraces by rw [X.admits.platform]).trans hl
  have Y := vx_rebase X (R' := { frames := R.frames, locals := R.locals, cells := 1, slots := 6 }) (Nat.le_refl _) (Nat.le_refl _) hRcells hRslots
  obtain ⟨s', hA⟩ : ∃ z, z = (T.setVm s.vm).setFrames (.invoking m args :: below) := ⟨_, rfl⟩
  rw [← hA] at Y
  have hvm : s'.vm = s.vm := by rw [hA]; rfl
  have hhp : s'.heap = H := by rw [hA]; exact hT
  have hW0 : s.WarmedH s'.vm := by rw [hvm]; exact State.WarmedH.refl s
  have hat' : ∀ w ∈ vx_at0 own ic cls names, w.before args s' = true := fun w hw => vx_ot_at hW0 hvm.symm (hgood w (List.mem_cons_of_mem _ (List.mem_cons_of_mem _ hw))) (hat w hw)
  have hk' : (Cond.classLink own ik cls).before args s' = true := vx_ot_at hW0 hvm.symm (hgood _ List.mem_cons_self) hk
  have hini' : (Cond.initialized cls).before args s' = true := vx_ot_at hW0 hvm.symm (hgood _ (List.mem_cons_of_mem _ List.mem_cons_self)) hini
  have hU' : vx_Zq Bundle.tN "UNASSIGNED_STACK" Bundle.steD A s' s'.heap := by rw [hhp]; exact vx_Zq.moved hW0.alike (hU.kept hS.2.1)
  have hN' : vx_Zq Bundle.tN "SUPPRESSED_SENTINEL" Bundle.listD A s' s'.heap := by rw [hhp]; exact vx_Zq.moved hW0.alike (hN.kept hS.2.1)
  have h : ∀ w ∈ Bundle.ownAtoms0 own ic cls names, w.before args s' = true := vx_own hat' (vx_isRefq hU'.1) (vx_isRefq hN'.1) hU'.2.word hN'.2.word
  have hown' : s'.vm.findClass own = some m.cls := by rw [hvm]; exact hown
  have hins : (Cond.instantiable cls 6).before args s' = true := h _ (by simp [Bundle.ownAtoms0])
  obtain ⟨vm₁, cX, kX, hfX, hkX, -, -, X₁, st1⟩ := Y.newCold hexec (own := own) (C := cls) (index := ik) (n := 6) hown' hk' hins hini'
    (g := F0 m pc ls rest) rfl (by rw [hb]; exact d0) (Nat.le_refl _) (Nat.le_refl _)
  generalize hT1 : (T.setVm vm₁).pushCell { cls := cX, slots := kX.instanceTypes.map defaultValue, vm := .none } = T1 at X₁ st1
  have hcat : (Value.ref T.heap.size).category = 1 := rfl
  have hcellA : T1.heap[T.heap.size]? = some (freshCell cX kX) := by rw [← hT1]; exact State.heap_pushCell_size _ _
  have d3' : decode c.code (pc + 3) = .ok (.dup, 1) := by rw [hb]; exact d3
  obtain ⟨U, hsteps, hrun, hend, hW, hsame, ce, hce, hO⟩ := X₁.ctorThrow0 hexec htr (own := own) (cls := cls) (names := names) (ic := ic) hown' hcls hnames h (fun x hx => nomatch hx) hfX hkX hcellA (by rw [hhp, hT]; exact Nat.le_refl _)
    (g := { method := m, pc := pc + 4, locals := ls, stack := .ref T.heap.size :: .ref T.heap.size :: rest, locked := none }) rfl hsize rfl rfl (rest := rest) rfl
    (by rw [hb]; exact d4) (by rw [hb]; exact d7) hout hRframes (by simp only [List.map_cons, List.sum_cons, hcat]; omega) hlocks
  obtain ⟨f1, f2⟩ := vx_frame hsame
  rw [hhp] at f1 f2
  have hWs : s.WarmedH U.vm := State.WarmedH.trans hW0 hW
  have hcl : s.vm.findClass cls = some ce.cls := by
    have h9 := hO.cls
    rw [hvm] at h9
    exact h9
  have hall : s.sameButNew ({ U with vm := s.vm } : State) locs mc ms := by
    subst hA
    obtain ⟨e1, e2⟩ := hsame
    rw [State.setFrames_setFrames] at e1
    have h2 : (T.setVm s.vm).sameButNew ({ U with vm := s.vm } : State) [] (0 + 1) (0 + 6) := ⟨e1, e2⟩
    have h3 := X.same.trans h2
    rw [List.append_nil] at h3
    exact h3.mono hc hs
  refine ⟨U, ?_, .threw T.heap.size, hrun, hend, Or.inr ⟨T.heap.size, rfl, cls, ce, locs, hx U hWs.alike f1 (fun q hq => f2 q hq (fun z hz => nomatch hz)), hce, hO.vm, hcl, hWs, hall, hf⟩⟩
  refine st1 _ ?_
  show Steps p.tables e below (T1.setTop { method := m, pc := pc + 3, locals := ls, stack := .ref T.heap.size :: rest, locked := none }) _
  jvm_step X₁.here [X₁.here.top, hexec, d3', Value.category]
  exact hsteps
/-- 'throw new E("text")': new; dup; ldc; invokespecial; athrow -/
theorem vx_throwS {cc : ByteArray} {pc : Nat} (hexec : p.tables.exec = Jvm.exec) (hb : c.code = cc) (hl : l.stackTraces = false) {own cls text : String} {names : List String} {ik is ic mc ms sa : Nat} {A : Nat → Prop}
    (hown : s.vm.findClass own = some m.cls) (hcls : Bundle.fit cls = true) (hnames : ∀ n ∈ names, Bundle.fit n = true)
    (hk : (Cond.classLink own ik cls).before args s = true) (hini : (Cond.initialized cls).before args s = true) (hstr : vk_R own is text sa s) (hat : ∀ w ∈ vx_atS own ic cls names, w.before args s = true)
    (hgood : ∀ w ∈ Cond.classLink own ik cls :: Cond.initialized cls :: vx_atS own ic cls names, vx_ot w = true)
    (hU : vx_Zq Bundle.tN "UNASSIGNED_STACK" Bundle.steD A s s.heap) (hN : vx_Zq Bundle.tN "SUPPRESSED_SENTINEL" Bundle.listD A s s.heap) (hS : va_S A s.heap H locs) (hsize : ls.size = c.maxLocals)
    (d0 : decode cc pc = .ok (.new ik, 3)) (d3 : decode cc (pc + 3) = .ok (.dup, 1)) (d4 : decode cc (pc + 4) = .ok (.ldc is, 2)) (d6 : decode cc (pc + 6) = .ok (.invokespecial ic, 3)) (d9 : decode cc (pc + 9) = .ok (.athrow, 1))
    (hout : ∀ x ∈ c.exceptionTable.toList, covers x (pc + 9) = false)
    (hRframes : names.length + 3 < R.frames) (hRlocals : (rest.map fun v => v.category).sum + (13 * (names.length + 1) + 43) ≤ R.locals) (hRcells : cells + 1 ≤ R.cells) (hRslots : slots + 6 ≤ R.slots) (hlocks : meth.locks = false)
    (hx : ∀ t : State, s.vm.Alike t.vm → H.size ≤ t.heap.size → (∀ q : Nat, q < H.size → t.heap[q]? = H[q]?) → XC cls s t)
    (hf : ∀ z ∈ locs, free z.base) (hc : cells + 1 ≤ mc) (hs : slots + 6 ≤ ms) :
    W p l e R s m args below meth c H locs cells slots (vx_MQ below Qc XC args s mc ms free) (F0 m pc ls rest) := by
  intro T hT X
  have htr : e.platform.stackTraces = false := (show e.platform.stackTraces = l.stackTraces by rw [X.admits.platform]).trans hl
  have Y := vx_rebase X (R' := { frames := R.frames, locals := R.locals, cells := 1, slots := 6 }) (Nat.le_refl _) (Nat.le_refl _) hRcells hRslots
  obtain ⟨s', hA⟩ : ∃ z, z = (T.setVm s.vm).setFrames (.invoking m args :: below) := ⟨_, rfl⟩
  rw [← hA] at Y
  have hvm : s'.vm = s.vm := by rw [hA]; rfl
  have hhp : s'.heap = H := by rw [hA]; exact hT
  have hW0 : s.WarmedH s'.vm := by rw [hvm]; exact State.WarmedH.refl s
  have hat' : ∀ w ∈ vx_atS own ic cls names, w.before args s' = true := fun w hw => vx_ot_at hW0 hvm.symm (hgood w (List.mem_cons_of_mem _ (List.mem_cons_of_mem _ hw))) (hat w hw)
  have hk' : (Cond.classLink own ik cls).before args s' = true := vx_ot_at hW0 hvm.symm (hgood _ List.mem_cons_self) hk
  have hini' : (Cond.initialized cls).before args s' = true := vx_ot_at hW0 hvm.symm (hgood _ (List.mem_cons_of_mem _ List.mem_cons_self)) hini
  have hU' : vx_Zq Bundle.tN "UNASSIGNED_STACK" Bundle.steD A s' s'.heap := by rw [hhp]; exact vx_Zq.moved hW0.alike (hU.kept hS.2.1)
  have hN' : vx_Zq Bundle.tN "SUPPRESSED_SENTINEL" Bundle.listD A s' s'.heap := by rw [hhp]; exact vx_Zq.moved hW0.alike (hN.kept hS.2.1)
  have h : ∀ w ∈ Bundle.ownAtoms own ic cls names, w.before args s' = true := vx_own hat' (vx_isRefq hU'.1) (vx_isRefq hN'.1) hU'.2.word hN'.2.word
  have hown' : s'.vm.findClass own = some m.cls := by rw [hvm]; exact hown
  have hins : (Cond.instantiable cls 6).before args s' = true := h _ (by simp [Bundle.ownAtoms])
  obtain ⟨vm₁, cX, kX, hfX, hkX, -, -, X₁, st1⟩ := Y.newCold hexec (own := own) (C := cls) (index := ik) (n := 6) hown' hk' hins hini'
    (g := F0 m pc ls rest) rfl (by rw [hb]; exact d0) (Nat.le_refl _) (Nat.le_refl _)
  generalize hT1 : (T.setVm vm₁).pushCell { cls := cX, slots := kX.instanceTypes.map defaultValue, vm := .none } = T1 at X₁ st1
  have hcat : (Value.ref T.heap.size).category = 1 := rfl
  have hcellA : T1.heap[T.heap.size]? = some (freshCell cX kX) := by rw [← hT1]; exact State.heap_pushCell_size _ _
  have d3' : decode c.code (pc + 3) = .ok (.dup, 1) := by rw [hb]; exact d3
  have d4' : decode c.code (pc + 4) = .ok (.ldc is, 2) := by rw [hb]; exact d4
  have hstr' : vk_R own is text sa s' := vk_R.warm hW0 hstr
  obtain ⟨U, hsteps, hrun, hend, hW, hsame, ce, hce, hO⟩ := X₁.ctorThrowS hexec htr (own := own) (cls := cls) (names := names) (ic := ic) hown' hcls hnames h (fun x hx => nomatch hx) hfX hkX hcellA (by rw [hhp, hT]; exact Nat.le_refl _) (msg := .ref sa) rfl
    (g := { method := m, pc := pc + 6, locals := ls, stack := .ref sa :: .ref T.heap.size :: .ref T.heap.size :: rest, locked := none }) rfl hsize rfl rfl (rest := rest) rfl
    (by rw [hb]; exact d6) (by rw [hb]; exact d9) hout hRframes (by simp only [List.map_cons, List.sum_cons, hcat]; omega) hlocks
  obtain ⟨f1, f2⟩ := vx_frame hsame
  rw [hhp] at f1 f2
  have hWs : s.WarmedH U.vm := State.WarmedH.trans hW0 hW
  have hcl : s.vm.findClass cls = some ce.cls := by
    have h9 := hO.cls
    rw [hvm] at h9
    exact h9
  have hall : s.sameButNew ({ U with vm := s.vm } : State) locs mc ms := by
    subst hA
    obtain ⟨e1, e2⟩ := hsame
    rw [State.setFrames_setFrames] at e1
    have h2 : (T.setVm s.vm).sameButNew ({ U with vm := s.vm } : State) [] (0 + 1) (0 + 6) := ⟨e1, e2⟩
    have h3 := X.same.trans h2
    rw [List.append_nil] at h3
    exact h3.mono hc hs
  refine ⟨U, ?_, .threw T.heap.size, hrun, hend, Or.inr ⟨T.heap.size, rfl, cls, ce, locs, hx U hWs.alike f1 (fun q hq => f2 q hq (fun z hz => nomatch hz)), hce, hO.vm, hcl, hWs, hall, hf⟩⟩
  refine st1 _ ?_
  show Steps p.tables e below (T1.setTop { method := m, pc := pc + 3, locals := ls, stack := .ref T.heap.size :: rest, locked := none }) _
  jvm_step X₁.here [X₁.here.top, hexec, d3', Value.category]
  exact X₁.ldcString hexec (own := own) (text := text) (index := is) (a := sa) hown' hstr'.1 hstr'.2
    (g := { method := m, pc := pc + 4, locals := ls, stack := .ref T.heap.size :: .ref T.heap.size :: rest, locked := none }) rfl d4' _ hsteps
/-- 'throw new E("text")', the text by a wide index -/
theorem vx_throwSW {cc : ByteArray} {pc : Nat} (hexec : p.tables.exec = Jvm.exec) (hb : c.code = cc) (hl : l.stackTraces = false) {own cls text : String} {names : List String} {ik is ic mc ms sa : Nat} {A : Nat → Prop}
    (hown : s.vm.findClass own = some m.cls) (hcls : Bundle.fit cls = true) (hnames : ∀ n ∈ names, Bundle.fit n = true)
    (hk : (Cond.classLink own ik cls).before args s = true) (hini : (Cond.initialized cls).before args s = true) (hstr : vk_R own is text sa s) (hat : ∀ w ∈ vx_atS own ic cls names, w.before args s = true)
    (hgood : ∀ w ∈ Cond.classLink own ik cls :: Cond.initialized cls :: vx_atS own ic cls names, vx_ot w = true)
    (hU : vx_Zq Bundle.tN "UNASSIGNED_STACK" Bundle.steD A s s.heap) (hN : vx_Zq Bundle.tN "SUPPRESSED_SENTINEL" Bundle.listD A s s.heap) (hS : va_S A s.heap H locs) (hsize : ls.size = c.maxLocals)
    (d0 : decode cc pc = .ok (.new ik, 3)) (d3 : decode cc (pc + 3) = .ok (.dup, 1)) (d4 : decode cc (pc + 4) = .ok (.ldc_w is, 3)) (d7 : decode cc (pc + 7) = .ok (.invokespecial ic, 3)) (d10 : decode cc (pc + 10) = .ok (.athrow, 1))
    (hout : ∀ x ∈ c.exceptionTable.toList, covers x (pc + 10) = false)
    (hRframes : names.length + 3 < R.frames) (hRlocals : (rest.map fun v => v.category).sum + (13 * (names.length + 1) + 43) ≤ R.locals) (hRcells : cells + 1 ≤ R.cells) (hRslots : slots + 6 ≤ R.slots) (hlocks : meth.locks = false)
    (hx : ∀ t : State, s.vm.Alike t.vm → H.size ≤ t.heap.size → (∀ q : Nat, q < H.size → t.heap[q]? = H[q]?) → XC cls s t)
    (hf : ∀ z ∈ locs, free z.base) (hc : cells + 1 ≤ mc) (hs : slots + 6 ≤ ms) :
    W p l e R s m args below meth c H locs cells slots (vx_MQ below Qc XC args s mc ms free) (F0 m pc ls rest) := by
  intro T hT X
  have htr : e.platform.stackTraces = false := (show e.platform.stackTraces = l.stackTraces by rw [X.admits.platform]).trans hl
  have Y := vx_rebase X (R' := { frames := R.frames, locals := R.locals, cells := 1, slots := 6 }) (Nat.le_refl _) (Nat.le_refl _) hRcells hRslots
  obtain ⟨s', hA⟩ : ∃ z, z = (T.setVm s.vm).setFrames (.invoking m args :: below) := ⟨_, rfl⟩
  rw [← hA] at Y
  have hvm : s'.vm = s.vm := by rw [hA]; rfl
  have hhp : s'.heap = H := by rw [hA]; exact hT
  have hW0 : s.WarmedH s'.vm := by rw [hvm]; exact State.WarmedH.refl s
  have hat' : ∀ w ∈ vx_atS own ic cls names, w.before args s' = true := fun w hw => vx_ot_at hW0 hvm.symm (hgood w (List.mem_cons_of_mem _ (List.mem_cons_of_mem _ hw))) (hat w hw)
  have hk' : (Cond.classLink own ik cls).before args s' = true := vx_ot_at hW0 hvm.symm (hgood _ List.mem_cons_self) hk
  have hini' : (Cond.initialized cls).before args s' = true := vx_ot_at hW0 hvm.symm (hgood _ (List.mem_cons_of_mem _ List.mem_cons_self)) hini
  have hU' : vx_Zq Bundle.tN "UNASSIGNED_STACK" Bundle.steD A s' s'.heap := by rw [hhp]; exact vx_Zq.moved hW0.alike (hU.kept hS.2.1)
  have hN' : vx_Zq Bundle.tN "SUPPRESSED_SENTINEL" Bundle.listD A s' s'.heap := by rw [hhp]; exact vx_Zq.moved hW0.alike (hN.kept hS.2.1)
  have h : ∀ w ∈ Bundle.ownAtoms own ic cls names, w.before args s' = true := vx_own hat' (vx_isRefq hU'.1) (vx_isRefq hN'.1) hU'.2.word hN'.2.word
  have hown' : s'.vm.findClass own = some m.cls := by rw [hvm]; exact hown
  have hins : (Cond.instantiable cls 6).before args s' = true := h _ (by simp [Bundle.ownAtoms])
  obtain ⟨vm₁, cX, kX, hfX, hkX, -, -, X₁, st1⟩ := Y.newCold hexec (own := own) (C := cls) (index := ik) (n := 6) hown' hk' hins hini'
    (g := F0 m pc ls rest) rfl (by rw [hb]; exact d0) (Nat.le_refl _) (Nat.le_refl _)
  generalize hT1 : (T.setVm vm₁).pushCell { cls := cX, slots := kX.instanceTypes.map defaultValue, vm := .none } = T1 at X₁ st1
  have hcat : (Value.ref T.heap.size).category = 1 := rfl
  have hcellA : T1.heap[T.heap.size]? = some (freshCell cX kX) := by rw [← hT1]; exact State.heap_pushCell_size _ _
  have d3' : decode c.code (pc + 3) = .ok (.dup, 1) := by rw [hb]; exact d3
  have d4' : decode c.code (pc + 4) = .ok (.ldc_w is, 3) := by rw [hb]; exact d4
  have hstr' : vk_R own is text sa s' := vk_R.warm hW0 hstr
  obtain ⟨U, hsteps, hrun, hend, hW, hsame, ce, hce, hO⟩ := X₁.ctorThrowS hexec htr (own := own) (cls := cls) (names := names) (ic := ic) hown' hcls hnames h (fun x hx => nomatch hx) hfX hkX hcellA (by rw [hhp, hT]; exact Nat.le_refl _) (msg := .ref sa) rfl
    (g := { method := m, pc := pc + 7, locals := ls, stack := .ref sa :: .ref T.heap.size :: .ref T.heap.size :: rest, locked := none }) rfl hsize rfl rfl (rest := rest) rfl
    (by rw [hb]; exact d7) (by rw [hb]; exact d10) hout hRframes (by simp only [List.map_cons, List.sum_cons, hcat]; omega) hlocks
  obtain ⟨f1, f2⟩ := vx_frame hsame
  rw [hhp] at f1 f2
  have hWs : s.WarmedH U.vm := State.WarmedH.trans hW0 hW
  have hcl : s.vm.findClass cls = some ce.cls := by
    have h9 := hO.cls
    rw [hvm] at h9
    exact h9
  have hall : s.sameButNew ({ U with vm := s.vm } : State) locs mc ms := by
    subst hA
    obtain ⟨e1, e2⟩ := hsame
    rw [State.setFrames_setFrames] at e1
    have h2 : (T.setVm s.vm).sameButNew ({ U with vm := s.vm } : State) [] (0 + 1) (0 + 6) := ⟨e1, e2⟩
    have h3 := X.same.trans h2
    rw [List.append_nil] at h3
    exact h3.mono hc hs
  refine ⟨U, ?_, .threw T.heap.size, hrun, hend, Or.inr ⟨T.heap.size, rfl, cls, ce, locs, hx U hWs.alike f1 (fun q hq => f2 q hq (fun z hz => nomatch hz)), hce, hO.vm, hcl, hWs, hall, hf⟩⟩
  refine st1 _ ?_
  show Steps p.tables e below (T1.setTop { method := m, pc := pc + 3, locals := ls, stack := .ref T.heap.size :: rest, locked := none }) _
  jvm_step X₁.here [X₁.here.top, hexec, d3', Value.category]
  exact X₁.ldcStringW hexec (own := own) (text := text) (index := is) (a := sa) hown' hstr'.1 hstr'.2
    (g := { method := m, pc := pc + 4, locals := ls, stack := .ref T.heap.size :: .ref T.heap.size :: rest, locked := none }) rfl d4' _ hsteps
end Ends
section Bodies
variable {l : Launch}
theorem vx_ofW {y : MethodName} {ws ws' : List Cond} {rm : Room} {Pc : Array Value → State → Prop} {Qc : Array Value → State → Outcome → State → Prop} {XC : String → State → State → Prop} {mc ms : Nat} {free : Addr → Prop} {cc : ByteArray} {maxL : Nat} {ret : Option FieldType}
    (hy : plainName y.cls = true) (hw : ws = Cond.code y cc maxL ret :: ws')
    (body : ∀ p e s m args below meth c s₁, BodyLoose p l y (headSpec ws rm) cc maxL ret e s m args below meth c s₁ → c.maxLocals = maxL → (∀ x ∈ c.exceptionTable.toList, False) → Pc args s →
      W p l e (headSpec ws rm).room s m args below meth c s.heap [] 0 0 (vx_MQ below Qc XC args s mc ms free) (entryFrame m args maxL)) : vx_Met l y ws rm Pc Qc XC mc ms free := by
  refine MetFree.of_bodyS (code := cc) (maxLocals := maxL) (ret := ret) hy ?_ ?_
  · intro args s m h hn
    obtain ⟨meth, c, h1, h2, h3, h4, h5, h6, -, -⟩ := Cond.code_spec hn (atoms_spec (ws := ws) h _ (by rw [hw]; exact List.mem_cons_self))
    exact ⟨meth, c, h1, h2, h3, h4, h5, h6⟩
  · intro p e s m args below meth c s₁ B hml hP _
    have hh0 : s₁.heap = s.heap := by rw [B.state]; rfl
    have ht : ∀ x ∈ c.exceptionTable.toList, False := by
      obtain ⟨meth9, c9, h1, h2, -, -, -, -, h7, -⟩ := Cond.code_spec B.named (atoms_spec (ws := ws) B.pre _ (by rw [hw]; exact List.mem_cons_self))
      cases Option.some.inj (h1.symm.trans B.method)
      cases Option.some.inj (h2.symm.trans (Stand.of_body B).code)
      intro x hx
      rw [Array.isEmpty_iff.mp h7] at hx
      cases hx
    obtain ⟨t, a1, o, b1, b2, b3⟩ := body p e s m args below meth c s₁ B hml ht hP s₁ hh0 (Stand.of_body B)
    exact ⟨t, o, a1, b1, b2, b3⟩
/-- the table of a body with handlers -/
theorem vx_table {p : Program} {x y : MethodName} {S : Spec} {cc bytes : ByteArray} {maxL maxL' : Nat} {ret ret' : Option FieldType} {e : Env} {s s₁ : State} {m : MethodId} {args : Array Value} {below : List Frame} {meth : Method} {c : Code} {hh : List (Nat × Nat × Nat × Nat)}
    (B : BodyLoose p l y S cc maxL ret e s m args below meth c s₁) (h : (Cond.codeWith y bytes maxL' ret' hh).before args s = true) : c.exceptionTable.toList = tableOf hh := by
  obtain ⟨m9, meth9, c9, hn9, h1, h2, -, -, h6, -⟩ := Cond.codeWith_spec h
  cases Option.some.inj (hn9.symm.trans B.named)
  cases Option.some.inj (h1.symm.trans B.method)
  cases Option.some.inj (h2.symm.trans (Stand.of_body B).code)
  rw [← h6, table_eq]
end Bodies
end VXA
/-! ===== END ===== -/
/-! ===== BEGIN a static call of a method with an exception table ===== -/
section VXS
variable {p : Program} {l : Launch} {e : Env} {R : Room} {s : State} {m : MethodId} {args : Array Value} {below : List Frame} {meth : Method} {c : Code} {T : State} {H : Heap} {locs : List Loc} {cells slots : Nat}
abbrev vx_CSW (R : Room) (s : State) (args : Array Value) (own : String) (index : Nat) (y : MethodName) (bytes : ByteArray) (maxL : Nat) (ret : Option FieldType) (hh : List (Nat × Nat × Nat × Nat)) (ws : List Cond) (rm : Room) (mc ms n : Nat) : Prop :=
  (rm.cells = mc ∧ rm.slots = ms ∧ rm.frames + 1 ≤ R.frames ∧ 8 + (maxL + 11) + rm.locals ≤ R.locals ∧ (∀ w ∈ ws, ∀ (a' : Array Value) (U : State), s.WarmedH U.vm → w.before a' U = true) ∧ Cond.codeWith y bytes maxL ret hh ∈ ws) ∧
  (Cond.codeWith y bytes maxL ret hh).before args s = true ∧ (Cond.initialized y.cls).before args s = true ∧ (y.cls ≠ "java/lang/invoke/MethodHandle" ∧ y.cls ≠ "java/lang/invoke/VarHandle") ∧
  (∀ sig, parseMethodDescriptor y.desc = some sig → n = sig.parameters.length) ∧ (Cond.methodLink own index y).before args s = true ∧ (Cond.static y).before args s = true
theorem vx_cwSW {own : String} {index maxL mc ms : Nat} {y : MethodName} {bytes : ByteArray} {ret : Option FieldType} {hh : List (Nat × Nat × Nat × Nat)} {Ts ws ws' : List Cond} {rm : Room} (n : Nat) (ht : ∀ w ∈ Ts, w.before args s = true) (hT : GoodIn Ts (va_wsS own index y ws)) (hw : ws = Cond.codeWith y bytes maxL ret hh :: ws') (hrc : rm.cells = mc) (hrs : rm.slots = ms)
    (hd : y.cls ≠ "java/lang/invoke/MethodHandle" ∧ y.cls ≠ "java/lang/invoke/VarHandle" ∧ (parseMethodDescriptor y.desc).map (fun d => d.parameters.length) = some n) (hR : rm.frames + 1 ≤ R.frames ∧ 8 + (maxL + 11) + rm.locals ≤ R.locals) :
    vx_CSW R s args own index y bytes maxL ret hh ws rm mc ms n := by
  have ok : ∀ w ∈ va_wsS own index y ws, w.before args s = true := fun w h => ht w (hT w h).1
  have hG : GoodIn Ts ws := fun w h => hT w (by unfold va_wsS; exact List.mem_append_right _ h)
  have hc : Cond.codeWith y bytes maxL ret hh ∈ ws := by rw [hw]; exact List.mem_cons_self
  refine ⟨⟨hrc, hrs, hR.1, hR.2, pay_in ht hG, hc⟩, ht _ (hG _ hc).1, ok _ (by simp [va_wsS]), ⟨hd.1, hd.2.1⟩, fun sig h => ?_, ok _ (by simp [va_wsS]), ok _ (by simp [va_wsS])⟩
  have h2 := hd.2.2
  rw [h] at h2
  exact (Option.some.inj h2).symm
theorem vx_callSW (X : Stand p l e R s m args below meth c T locs cells slots) (hexec : p.tables.exec = Jvm.exec) {own : String} {index : Nat} {y : MethodName} {bytes : ByteArray} {maxL : Nat} {ret : Option FieldType} {hh : List (Nat × Nat × Nat × Nat)}
    (hown : s.vm.findClass own = some m.cls) (hlink : (Cond.methodLink own index y).before args s = true) (hstat : (Cond.static y).before args s = true) (hinit : (Cond.initialized y.cls).before args s = true)
    (hcode : (Cond.codeWith y bytes maxL ret hh).before args s = true) (hy : y.cls ≠ "java/lang/invoke/MethodHandle" ∧ y.cls ≠ "java/lang/invoke/VarHandle")
    {W9 : Nat} {Pre : Pt → Array Value → Prop} {Post : Pt → Array Value → Option Value → Pt → Prop} (hK : Back l R p e below s args y 3 W9 Pre Post)
    {g : JFrame} (hg : g.method = m) (hsize : g.locals.size = c.maxLocals) {argsL rest : List Value} (hlen : ∀ sig, parseMethodDescriptor y.desc = some sig → argsL.length = sig.parameters.length)
    (hstack : g.stack = argsL.reverse ++ rest) (hW : 2 * g.monitorRoom + (rest.map fun v => v.category).sum ≤ W9) (hdg : decode c.code g.pc = .ok (.invokestatic index, 3))
    (hpre : ∀ vm₁, s.WarmedH vm₁ → Pre ⟨T.setVm vm₁, locs, cells, slots⟩ argsL.toArray) :
    ∃ (v : Option Value) (vm₁ : Vm) (B : Pt), s.WarmedH vm₁ ∧ Stand p l e R s m args below meth c B.U B.locs B.cells B.slots ∧ Post ⟨T.setVm vm₁, locs, cells, slots⟩ argsL.toArray v B ∧
      ∀ target, Steps p.tables e below (B.U.setTop { g with pc := g.pc + 3, stack := v.toList ++ rest }) target → Steps p.tables e below (T.setTop g) target := by
  obtain ⟨mk, methM, cM, hnamed, hmethM, -, -, -, -, -, -, hsigM⟩ := Cond.codeWith_spec hcode
  have hstatic : methM.isStatic = true := Cond.static_spec hnamed hmethM hstat
  obtain ⟨kP, hkP, -⟩ := className_of_methodNamed hnamed
  have hinitP : kP.init = .initialized := Cond.initialized_spec (findClass_of_methodNamed hnamed) hkP hinit
  obtain ⟨vm₁, X₁, hstep₁⟩ := X.invokestatic hexec hown hlink hnamed hmethM hstatic hkP hinitP hy (g := g) hg (argsL := argsL) (rest := rest) (hlen _ hsigM) hstack hdg
  obtain ⟨v, B, X', hpost, hsteps⟩ := hK m meth c ⟨T.setVm vm₁, locs, cells, slots⟩ { g with stack := rest } (.invokestatic index) mk argsL.toArray X₁ hg hsize hdg hW (X₁.named hnamed) (hpre vm₁ X₁.warmed)
  exact ⟨v, vm₁, B, X₁.warmed, X', hpost, fun target h => hstep₁ _ fun acts => by rw [doInvoke_state]; exact hsteps.trans h⟩
theorem vx_runSW {y : MethodName} {bytes cc : ByteArray} {maxL nL mc ms n index : Nat} {ret : Option FieldType} {hh : List (Nat × Nat × Nat × Nat)} {ws : List Cond} {rm : Room} {Pc : Array Value → State → Prop} {Qc : Array Value → State → Outcome → State → Prop} {free : Addr → Prop} {Ts : List Cond} {own : String} {As rest : List Value} {g : JFrame}
    (S : CallFix p m c cc nL s args Ts own) (hM : Met l y ws rm Pc Qc mc ms free) (cw : vx_CSW R s args own index y bytes maxL ret hh ws rm mc ms n) (hp : PreS s H Pc As)
    (hg : g.method = m) (hn : As.length = n) (hsize : g.locals.size = nL) (hstack : g.stack = As.reverse ++ rest) (hW : 2 * g.monitorRoom + (rest.map fun v => v.category).sum ≤ 8) (hdg : decode cc g.pc = .ok (.invokestatic index, 3)) (hf : cells + mc ≤ R.cells ∧ slots + ms ≤ R.slots) :
    va_Run p l e R s m args below meth c H locs cells slots mc ms g rest (Qc As.toArray) (free) := by
  obtain ⟨⟨hrc, hrs, hfr, hlo, hws, hcw⟩, hcode, hini, hy, hlen, hl, hstt⟩ := cw
  have hK : Back l R p e below s args y 3 8 (PreOf R mc ms Pc) (PostOf Qc mc ms free) := va_backW (hh := hh) (bytes := bytes) (maxL := maxL) (ret := ret) hM hp.1 hrc hrs hfr hlo hws hcw (fun a' U hW => word_at hW (Or.inl (by first | rfl | simp [Cond.onTables, Cond.keeps, Cond.steady])) hini)
  obtain ⟨hx, hb, hml, ho, -⟩ := S
  intro T hT X
  obtain ⟨v, vm₁, ⟨U', l2, c2, s2⟩, hW₁, X', ⟨g', mk, t, L, e1, e2, hq, h1, hL, h2, h3⟩, st⟩ := vx_callSW X hx (hh := hh) (bytes := bytes) (maxL := maxL) (ret := ret) ho hl hstt hini hcode hy hK hg (hsize.trans hml.symm) (argsL := As) (rest := rest) (fun sig h => hn.trans (hlen sig h)) hstack hW (by rw [hb]; exact hdg)
    (fun vm₁ hW₁ => ⟨hf.1, hf.2, hp.2 (T.setVm vm₁) hT hW₁⟩)
  dsimp only [Pt.U, Pt.locs, Pt.cells, Pt.slots] at X' e1 e2 h1 h2 h3 st
  subst h1; subst h2; subst h3
  exact ⟨v, (T.setVm vm₁).calling g' mk As.toArray, t, U', L, hT, X', hL, e1, e2, hq, st⟩
/-- not caught here, past rows that name other classes: it goes on to the caller -/
theorem vx_outP {p : Program} {l : Launch} {e : Env} {R : Room} {s : State} {m : MethodId} {args : Array Value} {below : List Frame} {meth : Method} {c : Code} {H : Heap} {locs : List Loc} {cells slots : Nat} {free : Addr → Prop} {ls : Array Slot} {rest : List Value} {Qc : Array Value → State → Outcome → State → Prop} {XC : String → State → State → Prop}
    {pc : Nat} {own E : String} {ce : Cell} {q : Addr} {mc ms : Nat} (hown : s.vm.findClass own = some m.cls) (hlocks : meth.locks = false)
    (hpass : ∀ z ∈ c.exceptionTable.toList, covers z pc = false ∨ (z.catchType ≠ 0 ∧ ∃ nm : String, (Cond.classLink own z.catchType nm).before args s = true ∧ va_Nc E nm s)) (hcell : H[q]? = some ce) (hv : ce.vm = .none) (hcl : s.vm.findClass E = some ce.cls)
    (hx : ∀ t : State, t.heap = H → s.vm.Alike t.vm → XC E s t) (hf : ∀ z ∈ locs, free z.base) (hc : cells ≤ mc) (hs : slots ≤ ms) :
    vx_W p l e R s m args below meth c H locs cells slots (vx_MQ below Qc XC args s mc ms free) (F0 m pc ls rest) q := by
  intro T hT X
  have hpl : e.platform.magicAccessors = ({} : Platform).magicAccessors := by rw [X.admits.platform]
  obtain ⟨vm', hW', X', st⟩ := X.outThrough hlocks q (g := F0 m pc ls rest) rfl rfl rfl (cell := ce) (by rw [hT]; exact hcell) (by rw [hv]; rfl)
    (by obtain ⟨k9, h9, -⟩ := Vm.findClass_spec hcl; exact ⟨k9, h9⟩) (fun z hz => by
      rcases hpass z hz with h | ⟨hz0, nm, hl1, hn1⟩
      · exact Or.inl h
      · obtain ⟨c6, hc6, hcl6⟩ := Cond.classLink_spec hown hl1 e.platform hpl
        obtain ⟨a8, b8, h1, h2, h3⟩ := hn1
        cases Option.some.inj (h1.symm.trans hcl)
        cases Option.some.inj (h2.symm.trans hc6)
        exact Or.inr ⟨hz0, _, hcl6, h3⟩)
  obtain ⟨g₀, hfr⟩ := X'.frames_eq
  have hcell9 : ((T.setVm vm').setFrames (.throwing q :: below)).heap[q]? = some ce := by
    show T.heap[q]? = some ce
    rw [hT]; exact hcell
  have hend : Ended ((T.setVm vm').setFrames (.throwing q :: below)) below (.threw q) := State.frames_setFrames _ (State.cur_lt_of_frames hfr)
  refine ⟨(T.setVm vm').setFrames (.throwing q :: below), ?_, .threw q, X'.here.running, hend, Or.inr ⟨q, rfl, E, ce, locs, hx _ hT (X'.ends _).1.alike, hcell9, hv, hcl, (X'.ends _).1, (X'.ends _).2.mono hc hs, hf⟩⟩
  rw [X.pushThrowing_eq]
  exact st
/-- a thing of a world lies in the heap -/
theorem vx_lt {D : va_G} {cl : List vw_C} {ws : va_W} {H1 : Heap} (h : va_P D cl ws H1) {k : Nat} {q : Nat × va_E} (hk : ws[k]? = some q) : q.1 < H1.size := (h k q hk).lt
end VXS
/-! ===== END ===== -/
/-! ===== BEGIN methods with a table of their own: called by a name, returning or throwing ===== -/
section VXH
/-! vx_backW, vx_callVX, vx_callSX, vx_callVW, vx_runVW, vx_runVX, vx_runSX, vx_ofWH follow the same proofs as their sisters above (Free/Laws.lean, Shelf42/LK1.lean); vx_outP calls Shelf42/NT130.lean (outThrough). -/
section
variable {l : Launch} {R : Room} {p : Program} {e : Env} {below : List Frame} {s : State} {sargs : Array Value} {y : MethodName} {len W9 : Nat}
theorem vx_backW {ws : List Cond} {rm : Room} {Pc : Array Value → State → Prop} {Qc : Array Value → State → Outcome → State → Prop} {XC : String → State → State → Prop} {mc ms : Nat} {free : Addr → Prop} {bytes : ByteArray} {maxL : Nat} {ret : Option FieldType} {hh : List (Nat × Nat × Nat × Nat)}
    (hM : vx_Met l y ws rm Pc Qc XC mc ms free) (hblind : FrameBlind Pc) (hrc : rm.cells = mc) (hrs : rm.slots = ms)
    (hframes : rm.frames + 1 ≤ R.frames) (hlocals : W9 + (maxL + 11) + rm.locals ≤ R.locals)
    (hws : ∀ w ∈ ws, ∀ a' U, s.WarmedH U.vm → w.before a' U = true) (hcode : Cond.codeWith y bytes maxL ret hh ∈ ws) (hinit : ∀ a' U, s.WarmedH U.vm → (Cond.initialized y.cls).before a' U = true) :
    vx_Back l R p e below s sargs y len W9 (PreOf R mc ms Pc) (PostOf Qc mc ms free) (vx_Post XC mc ms free) := by
  intro m meth c A g ig mk a X hg hsize hdg hW hn hp
  have h1 : (headSpec ws rm).pre.before a A.U = true := atoms_intro fun w hw => hws w hw _ _ X.warmed
  have h2 : (Cond.codeWith y bytes maxL ret hh).before a A.U = true := hws _ hcode _ _ X.warmed
  have h3 : (Cond.initialized y.cls).before a A.U = true := hinit _ _ X.warmed
  have h4 : A.cells + (headSpec ws rm).room.cells ≤ R.cells := by rw [show (headSpec ws rm).room.cells = mc from hrc]; exact hp.1
  have h5 : A.slots + (headSpec ws rm).room.slots ≤ R.slots := by rw [show (headSpec ws rm).room.slots = ms from hrs]; exact hp.2.1
  have hPc : Pc a (A.U.calling g mk a) := hblind _ _ _ _ hp.2.2
  obtain ⟨U, Ls, c0, s0⟩ := A
  dsimp only [Pt.U, Pt.locs, Pt.cells, Pt.slots] at h1 h2 h3 h4 h5 X hn hPc ⊢
  obtain ⟨m9, methY, cY, hn9, hmY, hcY, -, hlY, -⟩ := Cond.codeWith_spec h2
  cases Option.some.inj (hn9.symm.trans hn)
  obtain ⟨kY, hkY, -⟩ := className_of_methodNamed hn
  have hinitY : kY.init = .initialized := Cond.initialized_spec (findClass_of_methodNamed hn) hkY h3
  have h : At U g.method c below := by rw [hg]; exact X.here
  have hlocals9 : W9 + (maxL + 11) + (headSpec ws rm).room.locals ≤ R.locals := hlocals
  have happ : (headSpec ws rm).appliesLoose y e.platform (U.calling g mk a) = true :=
    Spec.appliesLoose_calling (g := g) h hdg hn hkY hinitY
      (X.room_calling (g := g) (R' := (headSpec ws rm).room) hsize hmY hcY hframes (by rw [hlY]; omega) h4 h5) h1
  obtain ⟨mid, hmid⟩ := h.above
  have hfr : (U.setTop g).frames = (.java g :: mid) ++ below := by rw [State.frames_setTop' g h.top, hmid]; rfl
  obtain ⟨o, s₂, hsteps, -, hend, hq⟩ := Steps.callFree hM p X.admits X.cas X.clock (acts := []) hfr happ hPc trivial
  have hq' : vx_Q Qc XC mc ms free a (U.calling g mk a) o s₂ := hq
  rw [State.frames_setTop' g h.top] at hend
  obtain ⟨g₀, hg0⟩ := Option.isSome_iff_exists.mp h.top
  obtain ⟨r, hr⟩ := State.topJava?_eq_some.mp hg0
  have hr' : (({ U with heap := s₂.heap, slotsUsed := s₂.slotsUsed } : State).setVm s₂.vm).frames = .java g₀ :: r := hr
  rcases hq' with ⟨hqc, L, hfe, hL⟩ | ⟨q, rfl, E, ce, L, hx, hce, hcv, hcl, hW₂, hsm, hL⟩
  · obtain ⟨⟨v, rfl⟩, hW₂, e2, q2, q3, q4, q5, q6⟩ := id hfe
    have e3 : s₂ = ({ (U.calling g mk a).setFrames s₂.frames with heap := s₂.heap, slotsUsed := s₂.slotsUsed } : State).setVm s₂.vm := by
      have : s₂ = ({ s₂ with vm := (U.calling g mk a).vm } : State).setVm s₂.vm := rfl
      rw [e2] at this
      exact this
    obtain ⟨c₂, i₂, len₂, hc₂, hd₂, hf₂⟩ := hend
    have hW' : U.WarmedH s₂.vm := hW₂
    have hcc : c₂ = c := by
      have h1 : s₂.code? g.method = U.code? g.method := by
        rw [State.code?_eq, State.code?_eq, hW'.alike.method?]
      exact Option.some.inj (hc₂.symm.trans (h1.trans h.code))
    subst hcc
    have hlen : len₂ = len := by rw [hdg] at hd₂; cases hd₂; rfl
    subst hlen
    have hs₂ : s₂ = (({ U with heap := s₂.heap, slotsUsed := s₂.slotsUsed } : State).setVm s₂.vm).setTop { g with pc := g.pc + len₂, stack := v.toList ++ g.stack } := by
      refine e3.trans ?_
      rw [hf₂, State.calling_eq h.top, State.setFrames_setFrames, State.setTop_of_frames _ hr', hr]
      rfl
    have hsame : U.sameButNew ({ U with heap := s₂.heap, slotsUsed := s₂.slotsUsed } : State) L mc ms := by
      refine ⟨?_, q2, q3, q4, q5, q6⟩
      obtain ⟨t, ht, -⟩ := State.frames_cons hr
      show ({ U with heap := s₂.heap, slotsUsed := s₂.slotsUsed } : State) = { U.setFrames U.frames with heap := s₂.heap, slotsUsed := s₂.slotsUsed }
      rw [State.setFrames_self ht]
    subst hg
    refine Or.inl ⟨v, ⟨(({ U with heap := s₂.heap, slotsUsed := s₂.slotsUsed } : State).setVm s₂.vm), Ls ++ L, c0 + mc, s0 + ms⟩,
      ⟨X.admits, X.cas, X.clock, X.frames, X.room, X.hears, X.method, X.code, (X.here.setHeapUsed s₂.heap s₂.slotsUsed).setVm hW'.alike, X.tail, State.WarmedH.trans X.warmed hW', X.limits, X.bytes, X.same.trans (hsame.setVm s.vm)⟩,
      ⟨g, mk, s₂, L, rfl, rfl, hqc, rfl, hL, rfl, rfl⟩, ?_⟩
    show Steps p.tables e below _ ((({ U with heap := s₂.heap, slotsUsed := s₂.slotsUsed } : State).setVm s₂.vm).setTop { g with pc := g.pc + len₂, stack := v.toList ++ g.stack })
    rw [← hs₂]
    exact hsteps
  · obtain ⟨e2, q2, q3, q4, q5, q6⟩ := id hsm
    have e3 : s₂ = ({ (U.calling g mk a).setFrames s₂.frames with heap := s₂.heap, slotsUsed := s₂.slotsUsed } : State).setVm s₂.vm := by
      have : s₂ = ({ s₂ with vm := (U.calling g mk a).vm } : State).setVm s₂.vm := rfl
      rw [e2] at this
      exact this
    have hf₂ : s₂.frames = .throwing q :: .java g :: U.frames.tail := hend
    have hW' : U.WarmedH s₂.vm := hW₂
    have hs₂ : s₂ = ((({ U with heap := s₂.heap, slotsUsed := s₂.slotsUsed } : State).setVm s₂.vm).setTop g).pushFrame (.throwing q) := by
      refine e3.trans ?_
      rw [hf₂, State.calling_eq h.top, State.setFrames_setFrames, State.pushFrame, State.frames_setTop _ hr', State.setTop_of_frames _ hr', State.setFrames_setFrames, hr]
      rfl
    have hsame : U.sameButNew ({ U with heap := s₂.heap, slotsUsed := s₂.slotsUsed } : State) L mc ms := by
      refine ⟨?_, q2, q3, q4, q5, q6⟩
      obtain ⟨t, ht, -⟩ := State.frames_cons hr
      show ({ U with heap := s₂.heap, slotsUsed := s₂.slotsUsed } : State) = { U.setFrames U.frames with heap := s₂.heap, slotsUsed := s₂.slotsUsed }
      rw [State.setFrames_self ht]
    subst hg
    refine Or.inr ⟨q, ⟨(({ U with heap := s₂.heap, slotsUsed := s₂.slotsUsed } : State).setVm s₂.vm), Ls ++ L, c0 + mc, s0 + ms⟩,
      ⟨X.admits, X.cas, X.clock, X.frames, X.room, X.hears, X.method, X.code, (X.here.setHeapUsed s₂.heap s₂.slotsUsed).setVm hW'.alike, X.tail, State.WarmedH.trans X.warmed hW', X.limits, X.bytes, X.same.trans (hsame.setVm s.vm)⟩,
      ⟨g, mk, s₂, L, E, ce, rfl, rfl, hx, hce, hcv, hcl, rfl, hL, rfl, rfl⟩, ?_⟩
    show Steps p.tables e below _ (((({ U with heap := s₂.heap, slotsUsed := s₂.slotsUsed } : State).setVm s₂.vm).setTop g).pushFrame (.throwing q))
    rw [← hs₂]
    exact hsteps
end
variable {p : Program} {l : Launch} {e : Env} {R : Room} {s : State} {m : MethodId} {args : Array Value} {below : List Frame} {meth : Method} {c : Code} {T : State} {H : Heap} {locs : List Loc} {cells slots : Nat}
theorem vx_callVX (X : Stand p l e R s m args below meth c T locs cells slots) (hexec : p.tables.exec = Jvm.exec) {own C : String} {index : Nat} {y : MethodName} {bytes : ByteArray} {maxL : Nat} {ret : Option FieldType} {hh : List (Nat × Nat × Nat × Nat)}
    (hown : s.vm.findClass own = some m.cls) (hlink : (Cond.methodLink own index y).before args s = true) (hinst : (Cond.instanceMethod y).before args s = true) (hsel : (Cond.selects C y y).before args s = true)
    (hcode : (Cond.codeWith y bytes maxL ret hh).before args s = true) (hy : y.cls ≠ "java/lang/invoke/MethodHandle" ∧ y.cls ≠ "java/lang/invoke/VarHandle")
    {W9 : Nat} {Pre : Pt → Array Value → Prop} {Post : Pt → Array Value → Option Value → Pt → Prop} {PostX : Pt → Array Value → Addr → Pt → Prop} (hK : vx_Back l R p e below s args y 3 W9 Pre Post PostX)
    {b : Addr} {cellB : Cell} (hcell : T.heap[b]? = some cellB) (hobj : cellB.vm.isStatics = false) (hcls : s.vm.findClass C = some cellB.cls)
    {g : JFrame} (hg : g.method = m) (hsize : g.locals.size = c.maxLocals) {argsL rest : List Value} (hlen : ∀ sig, parseMethodDescriptor y.desc = some sig → argsL.length = sig.parameters.length)
    (hstack : g.stack = argsL.reverse ++ .ref b :: rest) (hW : 2 * g.monitorRoom + (rest.map fun v => v.category).sum ≤ W9) (hdg : decode c.code g.pc = .ok (.invokevirtual index, 3))
    (hpre : ∀ vm₁, s.WarmedH vm₁ → Pre ⟨T.setVm vm₁, locs, cells, slots⟩ (Value.ref b :: argsL).toArray) :
    (∃ (v : Option Value) (vm₁ : Vm) (B : Pt), s.WarmedH vm₁ ∧ Stand p l e R s m args below meth c B.U B.locs B.cells B.slots ∧ Post ⟨T.setVm vm₁, locs, cells, slots⟩ (Value.ref b :: argsL).toArray v B ∧
      ∀ target, Steps p.tables e below (B.U.setTop { g with pc := g.pc + 3, stack := v.toList ++ rest }) target → Steps p.tables e below (T.setTop g) target) ∨
    (∃ (q : Addr) (vm₁ : Vm) (B : Pt), s.WarmedH vm₁ ∧ Stand p l e R s m args below meth c B.U B.locs B.cells B.slots ∧ PostX ⟨T.setVm vm₁, locs, cells, slots⟩ (Value.ref b :: argsL).toArray q B ∧
      Steps p.tables e below (T.setTop g) ((B.U.setTop { g with stack := rest }).pushFrame (.throwing q))) := by
  obtain ⟨mk, methM, hnamed, hmethM, hstM, habM⟩ := Cond.instanceMethod_spec hinst
  obtain ⟨m8, methM', cM, hn8, hmethM', -, -, -, -, -, -, hsigM⟩ := Cond.codeWith_spec hcode
  cases Option.some.inj (hn8.symm.trans hnamed)
  cases hmethM.symm.trans hmethM'
  obtain ⟨c2, r2, m2, q1, q2, q3, q4, kP, hkP, hkPi⟩ := Cond.selects_spec hsel
  cases hcls.symm.trans q1
  cases (State.methodFound?_of_named hnamed hy).symm.trans q2
  cases hnamed.symm.trans q3
  have hselP : selectMethod e.platform s.vm cellB.cls mk = .method mk := by rw [Launch.admits_selectMethod X.admits]; exact q4
  obtain ⟨vm₁, X₁, hstep₁⟩ := X.invokevirtual hexec hown hlink hnamed hmethM hstM hkP hkPi hy (a := b) (cell := cellB) hcell
    (fun z h => by rw [h] at hobj; cases hobj) hselP hmethM habM hkP hkPi (g := g) hg (argsL := argsL) (rest := rest) (hlen _ hsigM) hstack hdg
  rcases hK m meth c ⟨T.setVm vm₁, locs, cells, slots⟩ { g with stack := rest } (.invokevirtual index) mk (Value.ref b :: argsL).toArray X₁ hg hsize hdg hW (X₁.named hnamed) (hpre vm₁ X₁.warmed) with ⟨v, B, X', hpost, hsteps⟩ | ⟨q, B, X', hpost, hsteps⟩
  · exact Or.inl ⟨v, vm₁, B, X₁.warmed, X', hpost, fun target h => hstep₁ _ fun acts => by rw [doInvoke_state]; exact hsteps.trans h⟩
  · exact Or.inr ⟨q, vm₁, B, X₁.warmed, X', hpost, hstep₁ _ fun acts => by rw [doInvoke_state]; exact hsteps⟩
theorem vx_callSX (X : Stand p l e R s m args below meth c T locs cells slots) (hexec : p.tables.exec = Jvm.exec) {own : String} {index : Nat} {y : MethodName} {bytes : ByteArray} {maxL : Nat} {ret : Option FieldType} {hh : List (Nat × Nat × Nat × Nat)}
    (hown : s.vm.findClass own = some m.cls) (hlink : (Cond.methodLink own index y).before args s = true) (hstat : (Cond.static y).before args s = true) (hinit : (Cond.initialized y.cls).before args s = true)
    (hcode : (Cond.codeWith y bytes maxL ret hh).before args s = true) (hy : y.cls ≠ "java/lang/invoke/MethodHandle" ∧ y.cls ≠ "java/lang/invoke/VarHandle")
    {W9 : Nat} {Pre : Pt → Array Value → Prop} {Post : Pt → Array Value → Option Value → Pt → Prop} {PostX : Pt → Array Value → Addr → Pt → Prop} (hK : vx_Back l R p e below s args y 3 W9 Pre Post PostX)
    {g : JFrame} (hg : g.method = m) (hsize : g.locals.size = c.maxLocals) {argsL rest : List Value} (hlen : ∀ sig, parseMethodDescriptor y.desc = some sig → argsL.length = sig.parameters.length)
    (hstack : g.stack = argsL.reverse ++ rest) (hW : 2 * g.monitorRoom + (rest.map fun v => v.category).sum ≤ W9) (hdg : decode c.code g.pc = .ok (.invokestatic index, 3))
    (hpre : ∀ vm₁, s.WarmedH vm₁ → Pre ⟨T.setVm vm₁, locs, cells, slots⟩ argsL.toArray) :
    (∃ (v : Option Value) (vm₁ : Vm) (B : Pt), s.WarmedH vm₁ ∧ Stand p l e R s m args below meth c B.U B.locs B.cells B.slots ∧ Post ⟨T.setVm vm₁, locs, cells, slots⟩ argsL.toArray v B ∧
      ∀ target, Steps p.tables e below (B.U.setTop { g with pc := g.pc + 3, stack := v.toList ++ rest }) target → Steps p.tables e below (T.setTop g) target) ∨
    (∃ (q : Addr) (vm₁ : Vm) (B : Pt), s.WarmedH vm₁ ∧ Stand p l e R s m args below meth c B.U B.locs B.cells B.slots ∧ PostX ⟨T.setVm vm₁, locs, cells, slots⟩ argsL.toArray q B ∧
      Steps p.tables e below (T.setTop g) ((B.U.setTop { g with stack := rest }).pushFrame (.throwing q))) := by
  obtain ⟨mk, methM, cM, hnamed, hmethM, -, -, -, -, -, -, hsigM⟩ := Cond.codeWith_spec hcode
  have hstatic : methM.isStatic = true := Cond.static_spec hnamed hmethM hstat
  obtain ⟨kP, hkP, -⟩ := className_of_methodNamed hnamed
  have hinitP : kP.init = .initialized := Cond.initialized_spec (findClass_of_methodNamed hnamed) hkP hinit
  obtain ⟨vm₁, X₁, hstep₁⟩ := X.invokestatic hexec hown hlink hnamed hmethM hstatic hkP hinitP hy (g := g) hg (argsL := argsL) (rest := rest) (hlen _ hsigM) hstack hdg
  rcases hK m meth c ⟨T.setVm vm₁, locs, cells, slots⟩ { g with stack := rest } (.invokestatic index) mk argsL.toArray X₁ hg hsize hdg hW (X₁.named hnamed) (hpre vm₁ X₁.warmed) with ⟨v, B, X', hpost, hsteps⟩ | ⟨q, B, X', hpost, hsteps⟩
  · exact Or.inl ⟨v, vm₁, B, X₁.warmed, X', hpost, fun target h => hstep₁ _ fun acts => by rw [doInvoke_state]; exact hsteps.trans h⟩
  · exact Or.inr ⟨q, vm₁, B, X₁.warmed, X', hpost, hstep₁ _ fun acts => by rw [doInvoke_state]; exact hsteps⟩
theorem vx_callVW (X : Stand p l e R s m args below meth c T locs cells slots) (hexec : p.tables.exec = Jvm.exec) {own C : String} {index : Nat} {y : MethodName} {bytes : ByteArray} {maxL : Nat} {ret : Option FieldType} {hh : List (Nat × Nat × Nat × Nat)}
    (hown : s.vm.findClass own = some m.cls) (hlink : (Cond.methodLink own index y).before args s = true) (hinst : (Cond.instanceMethod y).before args s = true) (hsel : (Cond.selects C y y).before args s = true)
    (hcode : (Cond.codeWith y bytes maxL ret hh).before args s = true) (hy : y.cls ≠ "java/lang/invoke/MethodHandle" ∧ y.cls ≠ "java/lang/invoke/VarHandle")
    {W9 : Nat} {Pre : Pt → Array Value → Prop} {Post : Pt → Array Value → Option Value → Pt → Prop} (hK : Back l R p e below s args y 3 W9 Pre Post)
    {b : Addr} {cellB : Cell} (hcell : T.heap[b]? = some cellB) (hobj : cellB.vm.isStatics = false) (hcls : s.vm.findClass C = some cellB.cls)
    {g : JFrame} (hg : g.method = m) (hsize : g.locals.size = c.maxLocals) {argsL rest : List Value} (hlen : ∀ sig, parseMethodDescriptor y.desc = some sig → argsL.length = sig.parameters.length)
    (hstack : g.stack = argsL.reverse ++ .ref b :: rest) (hW : 2 * g.monitorRoom + (rest.map fun v => v.category).sum ≤ W9) (hdg : decode c.code g.pc = .ok (.invokevirtual index, 3))
    (hpre : ∀ vm₁, s.WarmedH vm₁ → Pre ⟨T.setVm vm₁, locs, cells, slots⟩ (Value.ref b :: argsL).toArray) :
    ∃ (v : Option Value) (vm₁ : Vm) (B : Pt), s.WarmedH vm₁ ∧ Stand p l e R s m args below meth c B.U B.locs B.cells B.slots ∧ Post ⟨T.setVm vm₁, locs, cells, slots⟩ (Value.ref b :: argsL).toArray v B ∧
      ∀ target, Steps p.tables e below (B.U.setTop { g with pc := g.pc + 3, stack := v.toList ++ rest }) target → Steps p.tables e below (T.setTop g) target := by
  obtain ⟨mk, methM, hnamed, hmethM, hstM, habM⟩ := Cond.instanceMethod_spec hinst
  obtain ⟨m8, methM', cM, hn8, hmethM', -, -, -, -, -, -, hsigM⟩ := Cond.codeWith_spec hcode
  cases Option.some.inj (hn8.symm.trans hnamed)
  cases hmethM.symm.trans hmethM'
  obtain ⟨c2, r2, m2, q1, q2, q3, q4, kP, hkP, hkPi⟩ := Cond.selects_spec hsel
  cases hcls.symm.trans q1
  cases (State.methodFound?_of_named hnamed hy).symm.trans q2
  cases hnamed.symm.trans q3
  have hselP : selectMethod e.platform s.vm cellB.cls mk = .method mk := by rw [Launch.admits_selectMethod X.admits]; exact q4
  obtain ⟨vm₁, X₁, hstep₁⟩ := X.invokevirtual hexec hown hlink hnamed hmethM hstM hkP hkPi hy (a := b) (cell := cellB) hcell
    (fun z h => by rw [h] at hobj; cases hobj) hselP hmethM habM hkP hkPi (g := g) hg (argsL := argsL) (rest := rest) (hlen _ hsigM) hstack hdg
  obtain ⟨v, B, X', hpost, hsteps⟩ := hK m meth c ⟨T.setVm vm₁, locs, cells, slots⟩ { g with stack := rest } (.invokevirtual index) mk (Value.ref b :: argsL).toArray X₁ hg hsize hdg hW (X₁.named hnamed) (hpre vm₁ X₁.warmed)
  exact ⟨v, vm₁, B, X₁.warmed, X', hpost, fun target h => hstep₁ _ fun acts => by rw [doInvoke_state]; exact hsteps.trans h⟩
abbrev vx_CVW (R : Room) (s : State) (args : Array Value) (own C : String) (index : Nat) (y : MethodName) (bytes : ByteArray) (maxL : Nat) (ret : Option FieldType) (hh : List (Nat × Nat × Nat × Nat)) (ws : List Cond) (rm : Room) (mc ms n : Nat) : Prop :=
  (rm.cells = mc ∧ rm.slots = ms ∧ rm.frames + 1 ≤ R.frames ∧ 8 + (maxL + 11) + rm.locals ≤ R.locals ∧ (∀ w ∈ ws, ∀ (a' : Array Value) (U : State), s.WarmedH U.vm → w.before a' U = true) ∧ Cond.codeWith y bytes maxL ret hh ∈ ws) ∧
  (Cond.codeWith y bytes maxL ret hh).before args s = true ∧ (Cond.initialized y.cls).before args s = true ∧ (y.cls ≠ "java/lang/invoke/MethodHandle" ∧ y.cls ≠ "java/lang/invoke/VarHandle") ∧
  (∀ sig, parseMethodDescriptor y.desc = some sig → n = sig.parameters.length) ∧ (Cond.methodLink own index y).before args s = true ∧ (Cond.instanceMethod y).before args s = true ∧ (Cond.selects C y y).before args s = true
theorem vx_cwVW {own C : String} {index maxL mc ms : Nat} {y : MethodName} {bytes : ByteArray} {ret : Option FieldType} {hh : List (Nat × Nat × Nat × Nat)} {Ts ws ws' : List Cond} {rm : Room} (n : Nat) (ht : ∀ w ∈ Ts, w.before args s = true) (hT : GoodIn Ts (wsV own index C y ws)) (hw : ws = Cond.codeWith y bytes maxL ret hh :: ws') (hrc : rm.cells = mc) (hrs : rm.slots = ms)
    (hd : y.cls = C ∧ y.cls ≠ "java/lang/invoke/MethodHandle" ∧ y.cls ≠ "java/lang/invoke/VarHandle" ∧ (parseMethodDescriptor y.desc).map (fun d => d.parameters.length) = some n) (hR : rm.frames + 1 ≤ R.frames ∧ 8 + (maxL + 11) + rm.locals ≤ R.locals) :
    vx_CVW R s args own C index y bytes maxL ret hh ws rm mc ms n := by
  obtain ⟨hC, hd⟩ := hd
  subst hC
  have ok : ∀ w ∈ wsV own index y.cls y ws, w.before args s = true := fun w h => ht w (hT w h).1
  have hG : GoodIn Ts ws := fun w h => hT w (by unfold wsV; exact List.mem_append_right _ h)
  have hc : Cond.codeWith y bytes maxL ret hh ∈ ws := by rw [hw]; exact List.mem_cons_self
  refine ⟨⟨hrc, hrs, hR.1, hR.2, pay_in ht hG, hc⟩, ht _ (hG _ hc).1, ok _ (by simp [wsV]), ⟨hd.1, hd.2.1⟩, fun sig h => ?_, ok _ (by simp [wsV]), ok _ (by simp [wsV]), ok _ (by simp [wsV])⟩
  have h2 := hd.2.2
  rw [h] at h2
  exact (Option.some.inj h2).symm
theorem vx_runVW {y : MethodName} {bytes cc : ByteArray} {maxL nL mc ms n index : Nat} {ret : Option FieldType} {hh : List (Nat × Nat × Nat × Nat)} {ws : List Cond} {rm : Room} {Pc : Array Value → State → Prop} {Qc : Array Value → State → Outcome → State → Prop} {free : Addr → Prop} {Ts : List Cond} {own C : String} {b : Addr} {As rest : List Value} {g : JFrame}
    (S : CallFix p m c cc nL s args Ts own) (hM : Met l y ws rm Pc Qc mc ms free) (cw : vx_CVW R s args own C index y bytes maxL ret hh ws rm mc ms n) (hp : PreV s H C b Pc As)
    (hg : g.method = m) (hn : As.length = n) (hsize : g.locals.size = nL) (hstack : g.stack = As.reverse ++ .ref b :: rest) (hW : 2 * g.monitorRoom + (rest.map fun v => v.category).sum ≤ 8) (hdg : decode cc g.pc = .ok (.invokevirtual index, 3)) (hf : cells + mc ≤ R.cells ∧ slots + ms ≤ R.slots) :
    va_Run p l e R s m args below meth c H locs cells slots mc ms g rest (Qc (Value.ref b :: As).toArray) free := by
  obtain ⟨⟨hrc, hrs, hfr, hlo, hws, hcw⟩, hcode, hini, hy, hlen, hl, hin, hse⟩ := cw
  have hK : Back l R p e below s args y 3 8 (PreOf R mc ms Pc) (PostOf Qc mc ms free) := va_backW (hh := hh) (bytes := bytes) (maxL := maxL) (ret := ret) hM hp.1 hrc hrs hfr hlo hws hcw (fun a' U hW => word_at hW (Or.inl (by first | rfl | simp [Cond.onTables, Cond.keeps, Cond.steady])) hini)
  obtain ⟨hx, hb, hml, ho, -⟩ := S
  obtain ⟨-, ⟨cellB, hcB, hoB, hclB⟩, hPc⟩ := hp
  intro T hT X
  obtain ⟨v, vm₁, ⟨U', l2, c2, s2⟩, hW₁, X', ⟨g', mk, t, L, e1, e2, hq, h1, hL, h2, h3⟩, st⟩ := vx_callVW X hx (C := C) (hh := hh) (bytes := bytes) (maxL := maxL) (ret := ret) ho hl hin hse hcode hy hK (by rw [hT]; exact hcB) hoB hclB hg (hsize.trans hml.symm) (argsL := As) (rest := rest) (fun sig h => hn.trans (hlen sig h)) hstack hW (by rw [hb]; exact hdg)
    (fun vm₁ hW₁ => ⟨hf.1, hf.2, hPc (T.setVm vm₁) hT hW₁⟩)
  dsimp only [Pt.U, Pt.locs, Pt.cells, Pt.slots] at X' e1 e2 h1 h2 h3 st
  subst h1; subst h2; subst h3
  exact ⟨v, (T.setVm vm₁).calling g' mk (Value.ref b :: As).toArray, t, U', L, hT, X', hL, e1, e2, hq, st⟩
section
variable {y : MethodName} {bytes cc : ByteArray} {maxL nL mc ms n index : Nat} {ret : Option FieldType} {ws : List Cond} {rm : Room} {Pc : Array Value → State → Prop} {Qc : Array Value → State → Outcome → State → Prop} {XC : String → State → State → Prop} {free : Addr → Prop} {Ts : List Cond} {own C : String} {b : Addr} {As rest : List Value} {g : JFrame}
theorem vx_runVX {hh : List (Nat × Nat × Nat × Nat)} (S : CallFix p m c cc nL s args Ts own) (hM : vx_Met l y ws rm Pc Qc XC mc ms free) (cw : vx_CVW R s args own C index y bytes maxL ret hh ws rm mc ms n) (hp : PreV s H C b Pc As)
    (hg : g.method = m) (hn : As.length = n) (hsize : g.locals.size = nL) (hstack : g.stack = As.reverse ++ .ref b :: rest) (hW : 2 * g.monitorRoom + (rest.map fun v => v.category).sum ≤ 8) (hdg : decode cc g.pc = .ok (.invokevirtual index, 3)) (hf : cells + mc ≤ R.cells ∧ slots + ms ≤ R.slots) :
    vx_Run p l e R s m args below meth c H locs cells slots mc ms g rest (Qc (Value.ref b :: As).toArray) XC free := by
  obtain ⟨⟨hrc, hrs, hfr, hlo, hws, hcw⟩, hcode, hini, hy, hlen, hl, hin, hse⟩ := cw
  have hK : vx_Back l R p e below s args y 3 8 (PreOf R mc ms Pc) (PostOf Qc mc ms free) (vx_Post XC mc ms free) := vx_backW (hh := hh) (bytes := bytes) (maxL := maxL) (ret := ret) hM hp.1 hrc hrs hfr hlo hws hcw (fun a' U hW => word_at hW (Or.inl (by first | rfl | simp [Cond.onTables, Cond.keeps, Cond.steady])) hini)
  obtain ⟨hx, hb, hml, ho, -⟩ := S
  obtain ⟨-, ⟨cellB, hcB, hoB, hclB⟩, hPc⟩ := hp
  intro T hT X
  rcases vx_callVX X hx (C := C) (hh := hh) (bytes := bytes) (maxL := maxL) (ret := ret) ho hl hin hse hcode hy hK (by rw [hT]; exact hcB) hoB hclB hg (hsize.trans hml.symm) (argsL := As) (rest := rest) (fun sig h => hn.trans (hlen sig h)) hstack hW (by rw [hb]; exact hdg)
    (fun vm₁ hW₁ => ⟨hf.1, hf.2, hPc (T.setVm vm₁) hT hW₁⟩) with ⟨v, vm₁, ⟨U', l2, c2, s2⟩, hW₁, X', ⟨g', mk, t, L, e1, e2, hq, h1, hL, h2, h3⟩, st⟩ | ⟨q, vm₁, ⟨U', l2, c2, s2⟩, hW₁, X', ⟨g', mk, t, L, E, ce, e1, e2, hq, hce, hcv, hcl, h1, hL, h2, h3⟩, st⟩
  · dsimp only [Pt.U, Pt.locs, Pt.cells, Pt.slots] at X' e1 e2 h1 h2 h3 st
    subst h1; subst h2; subst h3
    exact Or.inl ⟨v, (T.setVm vm₁).calling g' mk (Value.ref b :: As).toArray, t, U', L, hT, X', hL, e1, e2, hq, st⟩
  · dsimp only [Pt.U, Pt.locs, Pt.cells, Pt.slots] at X' e1 e2 h1 h2 h3 st hcl
    subst h1; subst h2; subst h3
    exact Or.inr ⟨q, (T.setVm vm₁).calling g' mk (Value.ref b :: As).toArray, t, U', L, E, ce, hT, X', hL, e1, e2, hq, hce, hcv, vx_cls hW₁ hcl, st⟩
theorem vx_runSX {hh : List (Nat × Nat × Nat × Nat)} (S : CallFix p m c cc nL s args Ts own) (hM : vx_Met l y ws rm Pc Qc XC mc ms free) (cw : vx_CSW R s args own index y bytes maxL ret hh ws rm mc ms n) (hp : PreS s H Pc As)
    (hg : g.method = m) (hn : As.length = n) (hsize : g.locals.size = nL) (hstack : g.stack = As.reverse ++ rest) (hW : 2 * g.monitorRoom + (rest.map fun v => v.category).sum ≤ 8) (hdg : decode cc g.pc = .ok (.invokestatic index, 3)) (hf : cells + mc ≤ R.cells ∧ slots + ms ≤ R.slots) :
    vx_Run p l e R s m args below meth c H locs cells slots mc ms g rest (Qc As.toArray) XC free := by
  obtain ⟨⟨hrc, hrs, hfr, hlo, hws, hcw⟩, hcode, hini, hy, hlen, hl, hstt⟩ := cw
  have hK : vx_Back l R p e below s args y 3 8 (PreOf R mc ms Pc) (PostOf Qc mc ms free) (vx_Post XC mc ms free) := vx_backW (hh := hh) (bytes := bytes) (maxL := maxL) (ret := ret) hM hp.1 hrc hrs hfr hlo hws hcw (fun a' U hW => word_at hW (Or.inl (by first | rfl | simp [Cond.onTables, Cond.keeps, Cond.steady])) hini)
  obtain ⟨hx, hb, hml, ho, -⟩ := S
  intro T hT X
  rcases vx_callSX X hx (hh := hh) (bytes := bytes) (maxL := maxL) (ret := ret) ho hl hstt hini hcode hy hK hg (hsize.trans hml.symm) (argsL := As) (rest := rest) (fun sig h => hn.trans (hlen sig h)) hstack hW (by rw [hb]; exact hdg)
    (fun vm₁ hW₁ => ⟨hf.1, hf.2, hp.2 (T.setVm vm₁) hT hW₁⟩) with ⟨v, vm₁, ⟨U', l2, c2, s2⟩, hW₁, X', ⟨g', mk, t, L, e1, e2, hq, h1, hL, h2, h3⟩, st⟩ | ⟨q, vm₁, ⟨U', l2, c2, s2⟩, hW₁, X', ⟨g', mk, t, L, E, ce, e1, e2, hq, hce, hcv, hcl, h1, hL, h2, h3⟩, st⟩
  · dsimp only [Pt.U, Pt.locs, Pt.cells, Pt.slots] at X' e1 e2 h1 h2 h3 st
    subst h1; subst h2; subst h3
    exact Or.inl ⟨v, (T.setVm vm₁).calling g' mk As.toArray, t, U', L, hT, X', hL, e1, e2, hq, st⟩
  · dsimp only [Pt.U, Pt.locs, Pt.cells, Pt.slots] at X' e1 e2 h1 h2 h3 st hcl
    subst h1; subst h2; subst h3
    exact Or.inr ⟨q, (T.setVm vm₁).calling g' mk As.toArray, t, U', L, E, ce, hT, X', hL, e1, e2, hq, hce, hcv, vx_cls hW₁ hcl, st⟩
end
end VXH
theorem vx_ofWH {l : Launch} {y : MethodName} {ws ws' : List Cond} {rm : Room} {Pc : Array Value → State → Prop} {Qc : Array Value → State → Outcome → State → Prop} {XC : String → State → State → Prop} {mc ms : Nat} {free : Addr → Prop} {cc : ByteArray} {maxL : Nat} {ret : Option FieldType} {hh : List (Nat × Nat × Nat × Nat)}
    (hy : plainName y.cls = true) (hw : ws = Cond.codeWith y cc maxL ret hh :: ws')
    (body : ∀ p e s m args below meth c s₁, BodyLoose p l y (headSpec ws rm) cc maxL ret e s m args below meth c s₁ → c.maxLocals = maxL → Pc args s →
      W p l e (headSpec ws rm).room s m args below meth c s.heap [] 0 0 (vx_MQ below Qc XC args s mc ms free) (entryFrame m args maxL)) : vx_Met l y ws rm Pc Qc XC mc ms free := by
  refine MetFree.of_bodyS (code := cc) (maxLocals := maxL) (ret := ret) hy ?_ ?_
  · intro args s m h hn
    obtain ⟨m9, meth, c, hn9, h1, h2, h3, h4, -, h5, h6, -⟩ := Cond.codeWith_spec (atoms_spec (ws := ws) h _ (by rw [hw]; exact List.mem_cons_self))
    cases hn.symm.trans hn9
    exact ⟨meth, c, h1, h2, h3, h4, h5, h6⟩
  · intro p e s m args below meth c s₁ B hml hP _
    have hh0 : s₁.heap = s.heap := by rw [B.state]; rfl
    obtain ⟨t, a1, o, b1, b2, b3⟩ := body p e s m args below meth c s₁ B hml hP s₁ hh0 (Stand.of_body B)
    exact ⟨t, o, a1, b1, b2, b3⟩
/-! ===== END ===== -/
end
section
/-! ===== BEGIN printed: names, fields, word lists, decode rows ===== -/
def RX0 : String := "Ghostracer$Book"
def TX0 : u_T := fun k => match k with
  | 0 => ("Ghostracer$Book", "laps", "[LGhostracer$Lap;", true)
  | _ => ("Ghostracer$Book", "count", "I", false)
def tyX0 : Nat → FieldType := fun k => match k with
  | 0 => .array (.object "Ghostracer$Lap")
  | _ => .int
abbrev wsX00 : List Cond := u_ws RX0 TX0 2
theorem nmX0 : ∀ a, a < 2 → ∀ b, b < 2 → a ≠ b → (TX0 a).2.1 ≠ (TX0 b).2.1 := by decide +kernel
theorem tyX0_ok : ∀ k, k < 2 → parseFieldDescriptor (TX0 k).2.2.1 = some (tyX0 k) := by decide +kernel
abbrev cX0_init : ByteArray := prog_2_method_1_code
def yX0_init : MethodName := ⟨RX0, "<init>", "()V"⟩
abbrev cX0_has : ByteArray := prog_2_method_2_code
def yX0_has : MethodName := ⟨RX0, "has", "(I)Z"⟩
abbrev cX0_hasGhost : ByteArray := prog_2_method_3_code
def yX0_hasGhost : MethodName := ⟨RX0, "hasGhost", "(II)Z"⟩
abbrev cX0_add : ByteArray := prog_2_method_4_code
def yX0_add : MethodName := ⟨RX0, "add", "(LGhostracer$Lap;)V"⟩
abbrev cX0_store : ByteArray := prog_2_method_5_code
def yX0_store : MethodName := ⟨RX0, "store", "(LGhostracer$Lap;I)V"⟩
abbrev cX0_settleDepth : ByteArray := prog_2_method_6_code
def yX0_settleDepth : MethodName := ⟨RX0, "settleDepth", "(LGhostracer$Lap;)V"⟩
abbrev cX0_moveFrom : ByteArray := prog_2_method_7_code
def yX0_moveFrom : MethodName := ⟨RX0, "moveFrom", "(II)I"⟩
abbrev cX0_countResting : ByteArray := prog_2_method_8_code
def yX0_countResting : MethodName := ⟨RX0, "countResting", "(I)I"⟩
abbrev cX0_restsOn : ByteArray := prog_2_method_9_code
def yX0_restsOn : MethodName := ⟨RX0, "restsOn", "(II)Z"⟩
abbrev cX0_countStanding : ByteArray := prog_2_method_10_code
def yX0_countStanding : MethodName := ⟨RX0, "countStanding", "()I"⟩
abbrev cX0_leastOn : ByteArray := prog_2_method_11_code
def yX0_leastOn : MethodName := ⟨RX0, "leastOn", "(I)I"⟩
abbrev cX0_isAhead : ByteArray := prog_2_method_12_code
def yX0_isAhead : MethodName := ⟨RX0, "isAhead", "(II)Z"⟩
def RX1 : String := "Ghostracer$Car"
def TX1 : u_T := fun k => match k with
  | 0 => ("Ghostracer$Car", "top", "I", false)
  | 1 => ("Ghostracer$Car", "pull", "I", false)
  | _ => ("Ghostracer$Car", "grip", "I", false)
def tyX1 : Nat → FieldType := fun k => match k with
  | 0 => .int
  | 1 => .int
  | _ => .int
abbrev wsX10 : List Cond := u_ws RX1 TX1 3
theorem nmX1 : ∀ a, a < 3 → ∀ b, b < 3 → a ≠ b → (TX1 a).2.1 ≠ (TX1 b).2.1 := by decide +kernel
theorem tyX1_ok : ∀ k, k < 3 → parseFieldDescriptor (TX1 k).2.2.1 = some (tyX1 k) := by decide +kernel
abbrev cX1_init : ByteArray := prog_3_method_1_code
def yX1_init : MethodName := ⟨RX1, "<init>", "()V"⟩
abbrev cX1_speedAfter : ByteArray := prog_3_method_2_code
def yX1_speedAfter : MethodName := ⟨RX1, "speedAfter", "(IC)I"⟩
def RX2 : String := "Ghostracer$Lap"
def TX2 : u_T := fun k => match k with
  | 0 => ("Ghostracer$Lap", "inputs", "[C", true)
  | 1 => ("Ghostracer$Lap", "ticks", "I", false)
  | 2 => ("Ghostracer$Lap", "time", "I", false)
  | 3 => ("Ghostracer$Lap", "driver", "I", false)
  | 4 => ("Ghostracer$Lap", "track", "I", false)
  | 5 => ("Ghostracer$Lap", "car", "I", false)
  | 6 => ("Ghostracer$Lap", "ghost", "I", false)
  | 7 => ("Ghostracer$Lap", "round", "I", false)
  | 8 => ("Ghostracer$Lap", "penalty", "I", false)
  | 9 => ("Ghostracer$Lap", "stands", "Z", false)
  | 10 => ("Ghostracer$Lap", "base", "I", false)
  | 11 => ("Ghostracer$Lap", "depth", "I", false)
  | _ => ("Ghostracer$Lap", "parts", "I", false)
def tyX2 : Nat → FieldType := fun k => match k with
  | 0 => .array .char
  | 1 => .int
  | 2 => .int
  | 3 => .int
  | 4 => .int
  | 5 => .int
  | 6 => .int
  | 7 => .int
  | 8 => .int
  | 9 => .boolean
  | 10 => .int
  | 11 => .int
  | _ => .int
abbrev wsX20 : List Cond := u_ws RX2 TX2 13
theorem nmX2 : ∀ a, a < 13 → ∀ b, b < 13 → a ≠ b → (TX2 a).2.1 ≠ (TX2 b).2.1 := by decide +kernel
theorem tyX2_ok : ∀ k, k < 13 → parseFieldDescriptor (TX2 k).2.2.1 = some (tyX2 k) := by decide +kernel
abbrev cX2_init : ByteArray := prog_4_method_1_code
def yX2_init : MethodName := ⟨RX2, "<init>", "()V"⟩
abbrev cX2_keep : ByteArray := prog_4_method_2_code
def yX2_keep : MethodName := ⟨RX2, "keep", "(LGhostracer$Ride;[C)V"⟩
abbrev cX2_counted : ByteArray := prog_4_method_3_code
def yX2_counted : MethodName := ⟨RX2, "counted", "()I"⟩
abbrev cX2_inputsUnlike : ByteArray := prog_4_method_4_code
def yX2_inputsUnlike : MethodName := ⟨RX2, "inputsUnlike", "(LGhostracer$Lap;)I"⟩
def RX3 : String := "Ghostracer$Ride"
def TX3 : u_T := fun k => match k with
  | 0 => ("Ghostracer$Ride", "place", "I", false)
  | 1 => ("Ghostracer$Ride", "speed", "I", false)
  | 2 => ("Ghostracer$Ride", "ticks", "I", false)
  | 3 => ("Ghostracer$Ride", "time", "I", false)
  | _ => ("Ghostracer$Ride", "isOver", "Z", false)
def tyX3 : Nat → FieldType := fun k => match k with
  | 0 => .int
  | 1 => .int
  | 2 => .int
  | 3 => .int
  | _ => .boolean
abbrev wsX30 : List Cond := u_ws RX3 TX3 5
theorem nmX3 : ∀ a, a < 5 → ∀ b, b < 5 → a ≠ b → (TX3 a).2.1 ≠ (TX3 b).2.1 := by decide +kernel
theorem tyX3_ok : ∀ k, k < 5 → parseFieldDescriptor (TX3 k).2.2.1 = some (tyX3 k) := by decide +kernel
abbrev cX3_init : ByteArray := prog_5_method_1_code
def yX3_init : MethodName := ⟨RX3, "<init>", "()V"⟩
abbrev cX3_follow : ByteArray := prog_5_method_2_code
def yX3_follow : MethodName := ⟨RX3, "follow", "([CILGhostracer$Track;LGhostracer$Car;)V"⟩
abbrev cX3_move : ByteArray := prog_5_method_3_code
def yX3_move : MethodName := ⟨RX3, "move", "(CLGhostracer$Track;LGhostracer$Car;)V"⟩
abbrev cX3_finish : ByteArray := prog_5_method_4_code
def yX3_finish : MethodName := ⟨RX3, "finish", "(I)V"⟩
def RX4 : String := "Ghostracer$Season"
def TX4 : u_T := fun k => match k with
  | 0 => ("Ghostracer$Season", "tracks", "[I", true)
  | 1 => ("Ghostracer$Season", "rounds", "I", false)
  | 2 => ("Ghostracer$Season", "open", "I", false)
  | 3 => ("Ghostracer$Season", "dropped", "I", false)
  | 4 => ("Ghostracer$Season", "lapOf", "[I", true)
  | 5 => ("Ghostracer$Season", "scores", "[I", true)
  | 6 => ("Ghostracer$Season", "points", "[I", true)
  | _ => ("Ghostracer$Season", "won", "[I", true)
def tyX4 : Nat → FieldType := fun k => match k with
  | 0 => .array .int
  | 1 => .int
  | 2 => .int
  | 3 => .int
  | 4 => .array .int
  | 5 => .array .int
  | 6 => .array .int
  | _ => .array .int
abbrev wsX40 : List Cond := u_ws RX4 TX4 8
theorem nmX4 : ∀ a, a < 8 → ∀ b, b < 8 → a ≠ b → (TX4 a).2.1 ≠ (TX4 b).2.1 := by decide +kernel
theorem tyX4_ok : ∀ k, k < 8 → parseFieldDescriptor (TX4 k).2.2.1 = some (tyX4 k) := by decide +kernel
abbrev cX4_init : ByteArray := prog_6_method_1_code
def yX4_init : MethodName := ⟨RX4, "<init>", "()V"⟩
abbrev cX4_openOn : ByteArray := prog_6_method_2_code
def yX4_openOn : MethodName := ⟨RX4, "openOn", "(I)V"⟩
abbrev cX4_roundOn : ByteArray := prog_6_method_3_code
def yX4_roundOn : MethodName := ⟨RX4, "roundOn", "(I)I"⟩
abbrev cX4_findLaps : ByteArray := prog_6_method_4_code
def yX4_findLaps : MethodName := ⟨RX4, "findLaps", "(LGhostracer$Book;I)V"⟩
abbrev cX4_lapsAhead : ByteArray := prog_6_method_5_code
def yX4_lapsAhead : MethodName := ⟨RX4, "lapsAhead", "(LGhostracer$Book;I)I"⟩
abbrev cX4_reckon : ByteArray := prog_6_method_6_code
def yX4_reckon : MethodName := ⟨RX4, "reckon", "(LGhostracer$Book;)V"⟩
abbrev cX4_score : ByteArray := prog_6_method_7_code
def yX4_score : MethodName := ⟨RX4, "score", "(LGhostracer$Book;II)V"⟩
abbrev cX4_takeLeast : ByteArray := prog_6_method_8_code
def yX4_takeLeast : MethodName := ⟨RX4, "takeLeast", "(I)I"⟩
abbrev cX4_driverBehind : ByteArray := prog_6_method_9_code
def yX4_driverBehind : MethodName := ⟨RX4, "driverBehind", "(I)I"⟩
abbrev cX4_isAheadInSeason : ByteArray := prog_6_method_10_code
def yX4_isAheadInSeason : MethodName := ⟨RX4, "isAheadInSeason", "(II)Z"⟩
def RX5 : String := "Ghostracer$Track"
def TX5 : u_T := fun k => match k with
  | 0 => ("Ghostracer$Track", "ends", "[I", true)
  | 1 => ("Ghostracer$Track", "limits", "[I", true)
  | 2 => ("Ghostracer$Track", "stretches", "I", false)
  | 3 => ("Ghostracer$Track", "length", "I", false)
  | _ => ("Ghostracer$Track", "isDriven", "Z", false)
def tyX5 : Nat → FieldType := fun k => match k with
  | 0 => .array .int
  | 1 => .array .int
  | 2 => .int
  | 3 => .int
  | _ => .boolean
abbrev wsX50 : List Cond := u_ws RX5 TX5 5
theorem nmX5 : ∀ a, a < 5 → ∀ b, b < 5 → a ≠ b → (TX5 a).2.1 ≠ (TX5 b).2.1 := by decide +kernel
theorem tyX5_ok : ∀ k, k < 5 → parseFieldDescriptor (TX5 k).2.2.1 = some (tyX5 k) := by decide +kernel
abbrev cX5_init : ByteArray := prog_7_method_1_code
def yX5_init : MethodName := ⟨RX5, "<init>", "()V"⟩
abbrev cX5_append : ByteArray := prog_7_method_2_code
def yX5_append : MethodName := ⟨RX5, "append", "(II)V"⟩
abbrev cX5_limitOf : ByteArray := prog_7_method_3_code
def yX5_limitOf : MethodName := ⟨RX5, "limitOf", "(I)I"⟩
def RX6 : String := "Ghostracer"
def TX6 : u_T := fun k => match k with
  | 0 => ("Ghostracer", "tracks", "[LGhostracer$Track;", true)
  | 1 => ("Ghostracer", "trackCount", "I", false)
  | 2 => ("Ghostracer", "cars", "[LGhostracer$Car;", true)
  | 3 => ("Ghostracer", "carCount", "I", false)
  | 4 => ("Ghostracer", "typed", "[C", true)
  | 5 => ("Ghostracer", "typedCount", "I", false)
  | 6 => ("Ghostracer", "ride", "LGhostracer$Ride;", true)
  | 7 => ("Ghostracer", "book", "LGhostracer$Book;", true)
  | _ => ("Ghostracer", "season", "LGhostracer$Season;", true)
def tyX6 : Nat → FieldType := fun k => match k with
  | 0 => .array (.object "Ghostracer$Track")
  | 1 => .int
  | 2 => .array (.object "Ghostracer$Car")
  | 3 => .int
  | 4 => .array .char
  | 5 => .int
  | 6 => .object "Ghostracer$Ride"
  | 7 => .object "Ghostracer$Book"
  | _ => .object "Ghostracer$Season"
abbrev wsX60 : List Cond := u_ws RX6 TX6 9
theorem nmX6 : ∀ a, a < 9 → ∀ b, b < 9 → a ≠ b → (TX6 a).2.1 ≠ (TX6 b).2.1 := by decide +kernel
theorem tyX6_ok : ∀ k, k < 9 → parseFieldDescriptor (TX6 k).2.2.1 = some (tyX6 k) := by decide +kernel
abbrev cX6_init : ByteArray := prog_1_method_1_code
def yX6_init : MethodName := ⟨RX6, "<init>", "()V"⟩
abbrev cX6_track : ByteArray := prog_1_method_2_code
def yX6_track : MethodName := ⟨RX6, "track", "()I"⟩
abbrev cX6_stretch : ByteArray := prog_1_method_3_code
def yX6_stretch : MethodName := ⟨RX6, "stretch", "(III)I"⟩
abbrev cX6_car : ByteArray := prog_1_method_4_code
def yX6_car : MethodName := ⟨RX6, "car", "(III)I"⟩
abbrev cX6_lengthOf : ByteArray := prog_1_method_5_code
def yX6_lengthOf : MethodName := ⟨RX6, "lengthOf", "(I)I"⟩
abbrev cX6_limitAt : ByteArray := prog_1_method_6_code
def yX6_limitAt : MethodName := ⟨RX6, "limitAt", "(II)I"⟩
abbrev cX6_type : ByteArray := prog_1_method_7_code
def yX6_type : MethodName := ⟨RX6, "type", "(CI)I"⟩
abbrev cX6_wipe : ByteArray := prog_1_method_8_code
def yX6_wipe : MethodName := ⟨RX6, "wipe", "()I"⟩
abbrev cX6_drive : ByteArray := prog_1_method_9_code
def yX6_drive : MethodName := ⟨RX6, "drive", "(IIII)I"⟩
abbrev cX6_tryOut : ByteArray := prog_1_method_10_code
def yX6_tryOut : MethodName := ⟨RX6, "tryOut", "(II)I"⟩
abbrev cX6_rideTyped : ByteArray := prog_1_method_11_code
def yX6_rideTyped : MethodName := ⟨RX6, "rideTyped", "(LGhostracer$Track;LGhostracer$Car;)V"⟩
abbrev cX6_laps : ByteArray := prog_1_method_12_code
def yX6_laps : MethodName := ⟨RX6, "laps", "()I"⟩
abbrev cX6_time : ByteArray := prog_1_method_13_code
def yX6_time : MethodName := ⟨RX6, "time", "(IZ)I"⟩
abbrev cX6_ticks : ByteArray := prog_1_method_14_code
def yX6_ticks : MethodName := ⟨RX6, "ticks", "(I)I"⟩
abbrev cX6_inputAt : ByteArray := prog_1_method_15_code
def yX6_inputAt : MethodName := ⟨RX6, "inputAt", "(II)C"⟩
abbrev cX6_replay : ByteArray := prog_1_method_16_code
def yX6_replay : MethodName := ⟨RX6, "replay", "(IIZ)I"⟩
abbrev cX6_of : ByteArray := prog_1_method_17_code
def yX6_of : MethodName := ⟨RX6, "of", "(IC)I"⟩
abbrev cX6_beats : ByteArray := prog_1_method_18_code
def yX6_beats : MethodName := ⟨RX6, "beats", "(I)Z"⟩
abbrev cX6_least : ByteArray := prog_1_method_19_code
def yX6_least : MethodName := ⟨RX6, "least", "(I)I"⟩
abbrev cX6_base : ByteArray := prog_1_method_20_code
def yX6_base : MethodName := ⟨RX6, "base", "(I)I"⟩
abbrev cX6_depth : ByteArray := prog_1_method_21_code
def yX6_depth : MethodName := ⟨RX6, "depth", "(I)I"⟩
abbrev cX6_parts : ByteArray := prog_1_method_22_code
def yX6_parts : MethodName := ⟨RX6, "parts", "(I)I"⟩
abbrev cX6_stored : ByteArray := prog_1_method_23_code
def yX6_stored : MethodName := ⟨RX6, "stored", "()I"⟩
abbrev cX6_resting : ByteArray := prog_1_method_24_code
def yX6_resting : MethodName := ⟨RX6, "resting", "(I)I"⟩
abbrev cX6_strike : ByteArray := prog_1_method_25_code
def yX6_strike : MethodName := ⟨RX6, "strike", "(I)I"⟩
abbrev cX6_giveBack : ByteArray := prog_1_method_26_code
def yX6_giveBack : MethodName := ⟨RX6, "giveBack", "(I)I"⟩
abbrev cX6_stands : ByteArray := prog_1_method_27_code
def yX6_stands : MethodName := ⟨RX6, "stands", "(I)Z"⟩
abbrev cX6_penalty : ByteArray := prog_1_method_28_code
def yX6_penalty : MethodName := ⟨RX6, "penalty", "(II)I"⟩
abbrev cX6_round : ByteArray := prog_1_method_29_code
def yX6_round : MethodName := ⟨RX6, "round", "(I)I"⟩
abbrev cX6_shut : ByteArray := prog_1_method_30_code
def yX6_shut : MethodName := ⟨RX6, "shut", "()I"⟩
abbrev cX6_lapIn : ByteArray := prog_1_method_31_code
def yX6_lapIn : MethodName := ⟨RX6, "lapIn", "(II)I"⟩
abbrev cX6_placeIn : ByteArray := prog_1_method_32_code
def yX6_placeIn : MethodName := ⟨RX6, "placeIn", "(II)I"⟩
abbrev cX6_findLap : ByteArray := prog_1_method_33_code
def yX6_findLap : MethodName := ⟨RX6, "findLap", "(II)I"⟩
abbrev cX6_drop : ByteArray := prog_1_method_34_code
def yX6_drop : MethodName := ⟨RX6, "drop", "(I)I"⟩
abbrev cX6_points : ByteArray := prog_1_method_35_code
def yX6_points : MethodName := ⟨RX6, "points", "(I)I"⟩
abbrev cX6_wins : ByteArray := prog_1_method_36_code
def yX6_wins : MethodName := ⟨RX6, "wins", "(I)I"⟩
abbrev cX6_standing : ByteArray := prog_1_method_37_code
def yX6_standing : MethodName := ⟨RX6, "standing", "(I)I"⟩
abbrev cX6_checksum : ByteArray := prog_1_method_38_code
def yX6_checksum : MethodName := ⟨RX6, "checksum", "()J"⟩
abbrev cX6_shareStored : ByteArray := prog_1_method_39_code
def yX6_shareStored : MethodName := ⟨RX6, "shareStored", "()F"⟩
abbrev cX6_meanTime : ByteArray := prog_1_method_40_code
def yX6_meanTime : MethodName := ⟨RX6, "meanTime", "()D"⟩
abbrev cX6_isSound : ByteArray := prog_1_method_41_code
def yX6_isSound : MethodName := ⟨RX6, "isSound", "()Z"⟩
abbrev cX6_rideAgain : ByteArray := prog_1_method_42_code
def yX6_rideAgain : MethodName := ⟨RX6, "rideAgain", "(LGhostracer$Lap;I)V"⟩
abbrev cX6_isWithin : ByteArray := prog_1_method_43_code
def yX6_isWithin : MethodName := ⟨RX6, "isWithin", "(III)Z"⟩
abbrev cX6_trackNumbered : ByteArray := prog_1_method_44_code
def yX6_trackNumbered : MethodName := ⟨RX6, "trackNumbered", "(I)LGhostracer$Track;"⟩
abbrev cX6_carNumbered : ByteArray := prog_1_method_45_code
def yX6_carNumbered : MethodName := ⟨RX6, "carNumbered", "(I)LGhostracer$Car;"⟩
abbrev cX6_lapNumbered : ByteArray := prog_1_method_46_code
def yX6_lapNumbered : MethodName := ⟨RX6, "lapNumbered", "(I)LGhostracer$Lap;"⟩
abbrev cX6_requireDriver : ByteArray := prog_1_method_47_code
def yX6_requireDriver : MethodName := ⟨RX6, "requireDriver", "(I)V"⟩
def RX7 : String := "GhostracerModel"
def TX7 : u_T := fun k => match k with
  | 0 => ("GhostracerModel", "code", "I", false)
  | 1 => ("GhostracerModel", "tracks", "I", false)
  | 2 => ("GhostracerModel", "stretches", "[I", true)
  | 3 => ("GhostracerModel", "length", "[I", true)
  | 4 => ("GhostracerModel", "limit", "[I", true)
  | 5 => ("GhostracerModel", "cars", "I", false)
  | 6 => ("GhostracerModel", "top", "[I", true)
  | 7 => ("GhostracerModel", "pull", "[I", true)
  | 8 => ("GhostracerModel", "grip", "[I", true)
  | 9 => ("GhostracerModel", "typed", "I", false)
  | 10 => ("GhostracerModel", "row", "[C", true)
  | 11 => ("GhostracerModel", "laps", "I", false)
  | 12 => ("GhostracerModel", "input", "[C", true)
  | 13 => ("GhostracerModel", "ticks", "[I", true)
  | 14 => ("GhostracerModel", "time", "[I", true)
  | 15 => ("GhostracerModel", "penalty", "[I", true)
  | 16 => ("GhostracerModel", "driver", "[I", true)
  | 17 => ("GhostracerModel", "track", "[I", true)
  | 18 => ("GhostracerModel", "car", "[I", true)
  | 19 => ("GhostracerModel", "ghost", "[I", true)
  | 20 => ("GhostracerModel", "round", "[I", true)
  | 21 => ("GhostracerModel", "base", "[I", true)
  | 22 => ("GhostracerModel", "isOut", "[Z", true)
  | 23 => ("GhostracerModel", "rounds", "I", false)
  | 24 => ("GhostracerModel", "isOpen", "Z", false)
  | 25 => ("GhostracerModel", "roundTrack", "[I", true)
  | 26 => ("GhostracerModel", "dropped", "I", false)
  | 27 => ("GhostracerModel", "counted", "[I", true)
  | 28 => ("GhostracerModel", "place", "I", false)
  | 29 => ("GhostracerModel", "speed", "I", false)
  | 30 => ("GhostracerModel", "tick", "I", false)
  | _ => ("GhostracerModel", "isOver", "Z", false)
def tyX7 : Nat → FieldType := fun k => match k with
  | 0 => .int
  | 1 => .int
  | 2 => .array .int
  | 3 => .array .int
  | 4 => .array .int
  | 5 => .int
  | 6 => .array .int
  | 7 => .array .int
  | 8 => .array .int
  | 9 => .int
  | 10 => .array .char
  | 11 => .int
  | 12 => .array .char
  | 13 => .array .int
  | 14 => .array .int
  | 15 => .array .int
  | 16 => .array .int
  | 17 => .array .int
  | 18 => .array .int
  | 19 => .array .int
  | 20 => .array .int
  | 21 => .array .int
  | 22 => .array .boolean
  | 23 => .int
  | 24 => .boolean
  | 25 => .array .int
  | 26 => .int
  | 27 => .array .int
  | 28 => .int
  | 29 => .int
  | 30 => .int
  | _ => .boolean
abbrev wsX70 : List Cond := u_ws RX7 TX7 32
theorem nmX7 : ∀ a, a < 32 → ∀ b, b < 32 → a ≠ b → (TX7 a).2.1 ≠ (TX7 b).2.1 := by decide +kernel
theorem tyX7_ok : ∀ k, k < 32 → parseFieldDescriptor (TX7 k).2.2.1 = some (tyX7 k) := by decide +kernel
abbrev cX7_init : ByteArray := prog_9_method_1_code
def yX7_init : MethodName := ⟨RX7, "<init>", "()V"⟩
abbrev cX7_thrown : ByteArray := prog_9_method_2_code
def yX7_thrown : MethodName := ⟨RX7, "thrown", "()I"⟩
abbrev cX7_fails : ByteArray := prog_9_method_3_code
def yX7_fails : MethodName := ⟨RX7, "fails", "(I)Z"⟩
abbrev cX7_in : ByteArray := prog_9_method_4_code
def yX7_in : MethodName := ⟨RX7, "in", "(III)Z"⟩
abbrev cX7_isNoTrack : ByteArray := prog_9_method_5_code
def yX7_isNoTrack : MethodName := ⟨RX7, "isNoTrack", "(I)Z"⟩
abbrev cX7_isNoCar : ByteArray := prog_9_method_6_code
def yX7_isNoCar : MethodName := ⟨RX7, "isNoCar", "(I)Z"⟩
abbrev cX7_isNoLap : ByteArray := prog_9_method_7_code
def yX7_isNoLap : MethodName := ⟨RX7, "isNoLap", "(I)Z"⟩
abbrev cX7_track : ByteArray := prog_9_method_8_code
def yX7_track : MethodName := ⟨RX7, "track", "()I"⟩
abbrev cX7_lengthNow : ByteArray := prog_9_method_9_code
def yX7_lengthNow : MethodName := ⟨RX7, "lengthNow", "(I)I"⟩
abbrev cX7_stretch : ByteArray := prog_9_method_10_code
def yX7_stretch : MethodName := ⟨RX7, "stretch", "(III)I"⟩
abbrev cX7_car : ByteArray := prog_9_method_11_code
def yX7_car : MethodName := ⟨RX7, "car", "(III)I"⟩
abbrev cX7_lengthOf : ByteArray := prog_9_method_12_code
def yX7_lengthOf : MethodName := ⟨RX7, "lengthOf", "(I)I"⟩
abbrev cX7_limitNow : ByteArray := prog_9_method_13_code
def yX7_limitNow : MethodName := ⟨RX7, "limitNow", "(II)I"⟩
abbrev cX7_limitAt : ByteArray := prog_9_method_14_code
def yX7_limitAt : MethodName := ⟨RX7, "limitAt", "(II)I"⟩
abbrev cX7_type : ByteArray := prog_9_method_15_code
def yX7_type : MethodName := ⟨RX7, "type", "(CI)I"⟩
abbrev cX7_wipe : ByteArray := prog_9_method_16_code
def yX7_wipe : MethodName := ⟨RX7, "wipe", "()I"⟩
abbrev cX7_starts : ByteArray := prog_9_method_17_code
def yX7_starts : MethodName := ⟨RX7, "starts", "()V"⟩
abbrev cX7_goes : ByteArray := prog_9_method_18_code
def yX7_goes : MethodName := ⟨RX7, "goes", "(IIC)V"⟩
abbrev cX7_drives : ByteArray := prog_9_method_19_code
def yX7_drives : MethodName := ⟨RX7, "drives", "(II)V"⟩
abbrev cX7_timeNow : ByteArray := prog_9_method_20_code
def yX7_timeNow : MethodName := ⟨RX7, "timeNow", "(I)I"⟩
abbrev cX7_canDrive : ByteArray := prog_9_method_21_code
def yX7_canDrive : MethodName := ⟨RX7, "canDrive", "(II)Z"⟩
abbrev cX7_isGhost : ByteArray := prog_9_method_22_code
def yX7_isGhost : MethodName := ⟨RX7, "isGhost", "(II)Z"⟩
abbrev cX7_drive : ByteArray := prog_9_method_23_code
def yX7_drive : MethodName := ⟨RX7, "drive", "(IIII)I"⟩
abbrev cX7_tryOut : ByteArray := prog_9_method_24_code
def yX7_tryOut : MethodName := ⟨RX7, "tryOut", "(II)I"⟩
abbrev cX7_laps : ByteArray := prog_9_method_25_code
def yX7_laps : MethodName := ⟨RX7, "laps", "()I"⟩
abbrev cX7_countOf : ByteArray := prog_9_method_26_code
def yX7_countOf : MethodName := ⟨RX7, "countOf", "(I)I"⟩
abbrev cX7_time : ByteArray := prog_9_method_27_code
def yX7_time : MethodName := ⟨RX7, "time", "(IZ)I"⟩
abbrev cX7_ticks : ByteArray := prog_9_method_28_code
def yX7_ticks : MethodName := ⟨RX7, "ticks", "(I)I"⟩
abbrev cX7_inputAt : ByteArray := prog_9_method_29_code
def yX7_inputAt : MethodName := ⟨RX7, "inputAt", "(II)C"⟩
abbrev cX7_replay : ByteArray := prog_9_method_30_code
def yX7_replay : MethodName := ⟨RX7, "replay", "(IIZ)I"⟩
abbrev cX7_of : ByteArray := prog_9_method_31_code
def yX7_of : MethodName := ⟨RX7, "of", "(IC)I"⟩
abbrev cX7_beats : ByteArray := prog_9_method_32_code
def yX7_beats : MethodName := ⟨RX7, "beats", "(I)Z"⟩
abbrev cX7_least : ByteArray := prog_9_method_33_code
def yX7_least : MethodName := ⟨RX7, "least", "(I)I"⟩
abbrev cX7_depthOf : ByteArray := prog_9_method_34_code
def yX7_depthOf : MethodName := ⟨RX7, "depthOf", "(I)I"⟩
abbrev cX7_partsOf : ByteArray := prog_9_method_35_code
def yX7_partsOf : MethodName := ⟨RX7, "partsOf", "(I)I"⟩
abbrev cX7_base : ByteArray := prog_9_method_36_code
def yX7_base : MethodName := ⟨RX7, "base", "(I)I"⟩
abbrev cX7_depth : ByteArray := prog_9_method_37_code
def yX7_depth : MethodName := ⟨RX7, "depth", "(I)I"⟩
abbrev cX7_parts : ByteArray := prog_9_method_38_code
def yX7_parts : MethodName := ⟨RX7, "parts", "(I)I"⟩
abbrev cX7_allParts : ByteArray := prog_9_method_39_code
def yX7_allParts : MethodName := ⟨RX7, "allParts", "()I"⟩
abbrev cX7_stored : ByteArray := prog_9_method_40_code
def yX7_stored : MethodName := ⟨RX7, "stored", "()I"⟩
abbrev cX7_rests : ByteArray := prog_9_method_41_code
def yX7_rests : MethodName := ⟨RX7, "rests", "(II)Z"⟩
abbrev cX7_resting : ByteArray := prog_9_method_42_code
def yX7_resting : MethodName := ⟨RX7, "resting", "(I)I"⟩
abbrev cX7_strike : ByteArray := prog_9_method_43_code
def yX7_strike : MethodName := ⟨RX7, "strike", "(I)I"⟩
abbrev cX7_giveBack : ByteArray := prog_9_method_44_code
def yX7_giveBack : MethodName := ⟨RX7, "giveBack", "(I)I"⟩
abbrev cX7_stands : ByteArray := prog_9_method_45_code
def yX7_stands : MethodName := ⟨RX7, "stands", "(I)Z"⟩
abbrev cX7_penalty : ByteArray := prog_9_method_46_code
def yX7_penalty : MethodName := ⟨RX7, "penalty", "(II)I"⟩
abbrev cX7_round : ByteArray := prog_9_method_47_code
def yX7_round : MethodName := ⟨RX7, "round", "(I)I"⟩
abbrev cX7_shut : ByteArray := prog_9_method_48_code
def yX7_shut : MethodName := ⟨RX7, "shut", "()I"⟩
abbrev cX7_lapNow : ByteArray := prog_9_method_49_code
def yX7_lapNow : MethodName := ⟨RX7, "lapNow", "(II)I"⟩
abbrev cX7_isNoSeat : ByteArray := prog_9_method_50_code
def yX7_isNoSeat : MethodName := ⟨RX7, "isNoSeat", "(II)Z"⟩
abbrev cX7_lapIn : ByteArray := prog_9_method_51_code
def yX7_lapIn : MethodName := ⟨RX7, "lapIn", "(II)I"⟩
abbrev cX7_placeNow : ByteArray := prog_9_method_52_code
def yX7_placeNow : MethodName := ⟨RX7, "placeNow", "(II)I"⟩
abbrev cX7_placeIn : ByteArray := prog_9_method_53_code
def yX7_placeIn : MethodName := ⟨RX7, "placeIn", "(II)I"⟩
abbrev cX7_drop : ByteArray := prog_9_method_54_code
def yX7_drop : MethodName := ⟨RX7, "drop", "(I)I"⟩
abbrev cX7_worth : ByteArray := prog_9_method_55_code
def yX7_worth : MethodName := ⟨RX7, "worth", "(I)I"⟩
abbrev cX7_pointsOf : ByteArray := prog_9_method_56_code
def yX7_pointsOf : MethodName := ⟨RX7, "pointsOf", "(I)I"⟩
abbrev cX7_winsOf : ByteArray := prog_9_method_57_code
def yX7_winsOf : MethodName := ⟨RX7, "winsOf", "(I)I"⟩
abbrev cX7_isNoDriver : ByteArray := prog_9_method_58_code
def yX7_isNoDriver : MethodName := ⟨RX7, "isNoDriver", "(I)Z"⟩
abbrev cX7_points : ByteArray := prog_9_method_59_code
def yX7_points : MethodName := ⟨RX7, "points", "(I)I"⟩
abbrev cX7_wins : ByteArray := prog_9_method_60_code
def yX7_wins : MethodName := ⟨RX7, "wins", "(I)I"⟩
abbrev cX7_standing : ByteArray := prog_9_method_61_code
def yX7_standing : MethodName := ⟨RX7, "standing", "(I)I"⟩
abbrev cX7_checksum : ByteArray := prog_9_method_62_code
def yX7_checksum : MethodName := ⟨RX7, "checksum", "()J"⟩
abbrev cX7_shareStored : ByteArray := prog_9_method_63_code
def yX7_shareStored : MethodName := ⟨RX7, "shareStored", "()F"⟩
abbrev cX7_meanTime : ByteArray := prog_9_method_64_code
def yX7_meanTime : MethodName := ⟨RX7, "meanTime", "()D"⟩
abbrev cX7_isSound : ByteArray := prog_9_method_65_code
def yX7_isSound : MethodName := ⟨RX7, "isSound", "()Z"⟩
def RJx145de : String := "java/io/Serializable"
def TJx145de : u_T := fun k => match k with
  | _ => ("", "", "", false)
def tyJx145de : Nat → FieldType := fun k => match k with
  | _ => .int
abbrev wsJx145de0 : List Cond := u_ws RJx145de TJx145de 0
theorem nmJx145de : ∀ a, a < 0 → ∀ b, b < 0 → a ≠ b → (TJx145de a).2.1 ≠ (TJx145de b).2.1 := by decide +kernel
theorem tyJx145de_ok : ∀ k, k < 0 → parseFieldDescriptor (TJx145de k).2.2.1 = some (tyJx145de k) := by decide +kernel
def RJ9 : String := "java/lang/Math"
def TJ9 : u_T := fun k => match k with
  | _ => ("", "", "", false)
def tyJ9 : Nat → FieldType := fun k => match k with
  | _ => .int
abbrev wsJ90 : List Cond := u_ws RJ9 TJ9 0
theorem nmJ9 : ∀ a, a < 0 → ∀ b, b < 0 → a ≠ b → (TJ9 a).2.1 ≠ (TJ9 b).2.1 := by decide +kernel
theorem tyJ9_ok : ∀ k, k < 0 → parseFieldDescriptor (TJ9 k).2.2.1 = some (tyJ9 k) := by decide +kernel
abbrev cJ9_max_7cf53 : ByteArray := prog_15_method_65_code
def yJ9_max_7cf53 : MethodName := ⟨RJ9, "max", "(II)I"⟩
abbrev cJ9_min_7cf53 : ByteArray := prog_15_method_69_code
def yJ9_min_7cf53 : MethodName := ⟨RJ9, "min", "(II)I"⟩
def RJ0 : String := "java/lang/String"
def TJ0 : u_T := fun k => match k with
  | _ => ("", "", "", false)
def tyJ0 : Nat → FieldType := fun k => match k with
  | _ => .int
abbrev wsJ00 : List Cond := u_ws RJ0 TJ0 0
theorem nmJ0 : ∀ a, a < 0 → ∀ b, b < 0 → a ≠ b → (TJ0 a).2.1 ≠ (TJ0 b).2.1 := by decide +kernel
theorem tyJ0_ok : ∀ k, k < 0 → parseFieldDescriptor (TJ0 k).2.2.1 = some (tyJ0 k) := by decide +kernel
def RL : String := "GhostracerLaw"
abbrev cL_track : ByteArray := method_3_code
def yL_track : MethodName := ⟨RL, "track", "(LGhostracer;[J)I"⟩
abbrev cL_stretch : ByteArray := method_4_code
def yL_stretch : MethodName := ⟨RL, "stretch", "(LGhostracer;III[J)I"⟩
abbrev cL_car : ByteArray := method_5_code
def yL_car : MethodName := ⟨RL, "car", "(LGhostracer;III[J)I"⟩
abbrev cL_lengthOf : ByteArray := method_6_code
def yL_lengthOf : MethodName := ⟨RL, "lengthOf", "(LGhostracer;I[J)I"⟩
abbrev cL_limitAt : ByteArray := method_7_code
def yL_limitAt : MethodName := ⟨RL, "limitAt", "(LGhostracer;II[J)I"⟩
abbrev cL_type : ByteArray := method_8_code
def yL_type : MethodName := ⟨RL, "type", "(LGhostracer;CI[J)I"⟩
abbrev cL_drive : ByteArray := method_9_code
def yL_drive : MethodName := ⟨RL, "drive", "(LGhostracer;IIII[J)I"⟩
abbrev cL_tryOut : ByteArray := method_10_code
def yL_tryOut : MethodName := ⟨RL, "tryOut", "(LGhostracer;II[J)I"⟩
abbrev cL_time : ByteArray := method_11_code
def yL_time : MethodName := ⟨RL, "time", "(LGhostracer;IZ[J)I"⟩
abbrev cL_ticks : ByteArray := method_12_code
def yL_ticks : MethodName := ⟨RL, "ticks", "(LGhostracer;I[J)I"⟩
abbrev cL_inputAt : ByteArray := method_13_code
def yL_inputAt : MethodName := ⟨RL, "inputAt", "(LGhostracer;II[J)I"⟩
abbrev cL_replay : ByteArray := method_14_code
def yL_replay : MethodName := ⟨RL, "replay", "(LGhostracer;IIZ[J)I"⟩
abbrev cL_of : ByteArray := method_15_code
def yL_of : MethodName := ⟨RL, "of", "(LGhostracer;IC[J)I"⟩
abbrev cL_beats : ByteArray := method_16_code
def yL_beats : MethodName := ⟨RL, "beats", "(LGhostracer;I[J)I"⟩
abbrev cL_least : ByteArray := method_17_code
def yL_least : MethodName := ⟨RL, "least", "(LGhostracer;I[J)I"⟩
abbrev cL_base : ByteArray := method_18_code
def yL_base : MethodName := ⟨RL, "base", "(LGhostracer;I[J)I"⟩
abbrev cL_depth : ByteArray := method_19_code
def yL_depth : MethodName := ⟨RL, "depth", "(LGhostracer;I[J)I"⟩
abbrev cL_parts : ByteArray := method_20_code
def yL_parts : MethodName := ⟨RL, "parts", "(LGhostracer;I[J)I"⟩
abbrev cL_resting : ByteArray := method_21_code
def yL_resting : MethodName := ⟨RL, "resting", "(LGhostracer;I[J)I"⟩
abbrev cL_strike : ByteArray := method_22_code
def yL_strike : MethodName := ⟨RL, "strike", "(LGhostracer;I[J)I"⟩
abbrev cL_giveBack : ByteArray := method_23_code
def yL_giveBack : MethodName := ⟨RL, "giveBack", "(LGhostracer;I[J)I"⟩
abbrev cL_stands : ByteArray := method_24_code
def yL_stands : MethodName := ⟨RL, "stands", "(LGhostracer;I[J)I"⟩
abbrev cL_penalty : ByteArray := method_25_code
def yL_penalty : MethodName := ⟨RL, "penalty", "(LGhostracer;II[J)I"⟩
abbrev cL_round : ByteArray := method_26_code
def yL_round : MethodName := ⟨RL, "round", "(LGhostracer;I[J)I"⟩
abbrev cL_shut : ByteArray := method_27_code
def yL_shut : MethodName := ⟨RL, "shut", "(LGhostracer;[J)I"⟩
abbrev cL_lapIn : ByteArray := method_28_code
def yL_lapIn : MethodName := ⟨RL, "lapIn", "(LGhostracer;II[J)I"⟩
abbrev cL_placeIn : ByteArray := method_29_code
def yL_placeIn : MethodName := ⟨RL, "placeIn", "(LGhostracer;II[J)I"⟩
abbrev cL_drop : ByteArray := method_30_code
def yL_drop : MethodName := ⟨RL, "drop", "(LGhostracer;I[J)I"⟩
abbrev cL_points : ByteArray := method_31_code
def yL_points : MethodName := ⟨RL, "points", "(LGhostracer;I[J)I"⟩
abbrev cL_wins : ByteArray := method_32_code
def yL_wins : MethodName := ⟨RL, "wins", "(LGhostracer;I[J)I"⟩
abbrev cL_standing : ByteArray := method_33_code
def yL_standing : MethodName := ⟨RL, "standing", "(LGhostracer;I[J)I"⟩
abbrev cL_shareStored : ByteArray := method_34_code
def yL_shareStored : MethodName := ⟨RL, "shareStored", "(LGhostracer;[D)I"⟩
abbrev cL_meanTime : ByteArray := method_35_code
def yL_meanTime : MethodName := ⟨RL, "meanTime", "(LGhostracer;[D)I"⟩
abbrev cL_law : ByteArray := code
def yL_law : MethodName := ⟨RL, "law", "([I)Z"⟩
def wsX2_init : List Cond := .code yX2_init cX2_init 1 none :: ([.methodLink RX2 3 objectInit, .instanceMethod objectInit, .code objectInit ⟨#[0xb1]⟩ 1 none, .arrayClass .char, .fieldLink RX2 9 "Ghostracer$Lap" "inputs" "[C"] ++ wsX20)
def wsX0_init : List Cond := .code yX0_init cX0_init 2 none :: ([.methodLink RX0 3 objectInit, .instanceMethod objectInit, .code objectInit ⟨#[0xb1]⟩ 1 none, .classLink RX0 9 RX2, .fieldLink RX0 11 "Ghostracer$Book" "laps" "[LGhostracer$Lap;", .instantiable RX2 13, .initialized RX2, .instanceMethod yX2_init, .code yX2_init cX2_init 1 none, .methodLink RX2 3 objectInit, .arrayClass .char, .fieldLink RX2 9 "Ghostracer$Lap" "inputs" "[C"] ++ wsX00 ++ wsX20)
def wsX0_has : List Cond := .code yX0_has cX0_has 2 (some .boolean) :: ([.fieldLink RX0 18 "Ghostracer$Book" "count" "I"] ++ wsX00)
def wsX0_hasGhost : List Cond := .code yX0_hasGhost cX0_hasGhost 3 (some .boolean) :: ([.fieldLink RX0 11 "Ghostracer$Book" "laps" "[LGhostracer$Lap;", .fieldLink RX0 26 "Ghostracer$Lap" "track" "I", .fieldLink RX0 29 "Ghostracer$Lap" "stands" "Z", .methodLink RX0 22 yX0_has, .instanceMethod yX0_has, .selects RX0 yX0_has yX0_has, .initialized RX0, .code yX0_has cX0_has 2 (some .boolean), .fieldLink RX0 18 "Ghostracer$Book" "count" "I"] ++ wsX00 ++ wsX20)
def wsX2_inputsUnlike : List Cond := .code yX2_inputsUnlike cX2_inputsUnlike 4 (some .int) :: ([.fieldLink RX2 21 "Ghostracer$Lap" "ticks" "I", .fieldLink RX2 9 "Ghostracer$Lap" "inputs" "[C"] ++ wsX20)
def wsX0_store : List Cond := .code yX0_store cX0_store 3 none :: ([.fieldLink RX0 47 "Ghostracer$Lap" "base" "I", .fieldLink RX0 11 "Ghostracer$Book" "laps" "[LGhostracer$Lap;", .fieldLink RX0 54 "Ghostracer$Lap" "ticks" "I", .fieldLink RX0 57 "Ghostracer$Lap" "parts" "I", .methodLink RX0 22 yX0_has, .instanceMethod yX0_has, .selects RX0 yX0_has yX0_has, .initialized RX0, .code yX0_has cX0_has 2 (some .boolean), .fieldLink RX0 18 "Ghostracer$Book" "count" "I", .methodLink RX0 50 yX2_inputsUnlike, .instanceMethod yX2_inputsUnlike, .selects RX2 yX2_inputsUnlike yX2_inputsUnlike, .initialized RX2, .code yX2_inputsUnlike cX2_inputsUnlike 4 (some .int), .fieldLink RX2 21 "Ghostracer$Lap" "ticks" "I", .fieldLink RX2 9 "Ghostracer$Lap" "inputs" "[C"] ++ wsX20 ++ wsX00)
def wsX0_settleDepth : List Cond := .code yX0_settleDepth cX0_settleDepth 2 none :: ([.fieldLink RX0 47 "Ghostracer$Lap" "base" "I", .fieldLink RX0 11 "Ghostracer$Book" "laps" "[LGhostracer$Lap;", .fieldLink RX0 36 "Ghostracer$Lap" "depth" "I", .methodLink RX0 22 yX0_has, .instanceMethod yX0_has, .selects RX0 yX0_has yX0_has, .initialized RX0, .code yX0_has cX0_has 2 (some .boolean), .fieldLink RX0 18 "Ghostracer$Book" "count" "I"] ++ wsX20 ++ wsX00)
def wsX0_add_r1 : List Cond := [Cond.fieldLink RX0 33 "Ghostracer$Lap" "ghost" "I", Cond.fieldLink RX0 11 "Ghostracer$Book" "laps" "[LGhostracer$Lap;", Cond.fieldLink RX0 36 "Ghostracer$Lap" "depth" "I", Cond.fieldLink RX0 18 "Ghostracer$Book" "count" "I", Cond.methodLink RX0 22 yX0_has, Cond.instanceMethod yX0_has, Cond.selects RX0 yX0_has yX0_has, Cond.initialized RX0, Cond.code yX0_has cX0_has 2 (some .boolean), Cond.methodLink RX0 39 yX0_store, Cond.instanceMethod yX0_store, Cond.selects RX0 yX0_store yX0_store, Cond.code yX0_store cX0_store 3 none, Cond.fieldLink RX0 47 "Ghostracer$Lap" "base" "I", Cond.fieldLink RX0 54 "Ghostracer$Lap" "ticks" "I", Cond.fieldLink RX0 57 "Ghostracer$Lap" "parts" "I", Cond.methodLink RX0 50 yX2_inputsUnlike, Cond.instanceMethod yX2_inputsUnlike, Cond.selects RX2 yX2_inputsUnlike yX2_inputsUnlike, Cond.initialized RX2, Cond.code yX2_inputsUnlike cX2_inputsUnlike 4 (some .int), Cond.fieldLink RX2 21 "Ghostracer$Lap" "ticks" "I", Cond.fieldLink RX2 9 "Ghostracer$Lap" "inputs" "[C", Cond.methodLink RX0 43 yX0_settleDepth]
def wsX0_add_r2 : List Cond := [Cond.instanceMethod yX0_settleDepth, Cond.selects RX0 yX0_settleDepth yX0_settleDepth, Cond.code yX0_settleDepth cX0_settleDepth 2 none]
def wsX0_add : List Cond := .code yX0_add cX0_add 3 none :: ((wsX0_add_r1 ++ wsX0_add_r2) ++ wsX20 ++ wsX00)
def wsX0_moveFrom_r1 : List Cond := [Cond.fieldLink RX0 18 "Ghostracer$Book" "count" "I", Cond.fieldLink RX0 11 "Ghostracer$Book" "laps" "[LGhostracer$Lap;", Cond.fieldLink RX0 47 "Ghostracer$Lap" "base" "I", Cond.methodLink RX0 39 yX0_store, Cond.instanceMethod yX0_store, Cond.selects RX0 yX0_store yX0_store, Cond.initialized RX0, Cond.code yX0_store cX0_store 3 none, Cond.fieldLink RX0 54 "Ghostracer$Lap" "ticks" "I", Cond.fieldLink RX0 57 "Ghostracer$Lap" "parts" "I", Cond.methodLink RX0 22 yX0_has, Cond.instanceMethod yX0_has, Cond.selects RX0 yX0_has yX0_has, Cond.code yX0_has cX0_has 2 (some .boolean), Cond.methodLink RX0 50 yX2_inputsUnlike, Cond.instanceMethod yX2_inputsUnlike, Cond.selects RX2 yX2_inputsUnlike yX2_inputsUnlike, Cond.initialized RX2, Cond.code yX2_inputsUnlike cX2_inputsUnlike 4 (some .int), Cond.fieldLink RX2 21 "Ghostracer$Lap" "ticks" "I", Cond.fieldLink RX2 9 "Ghostracer$Lap" "inputs" "[C", Cond.methodLink RX0 43 yX0_settleDepth, Cond.instanceMethod yX0_settleDepth, Cond.selects RX0 yX0_settleDepth yX0_settleDepth]
def wsX0_moveFrom_r2 : List Cond := [Cond.code yX0_settleDepth cX0_settleDepth 2 none, Cond.fieldLink RX0 36 "Ghostracer$Lap" "depth" "I"]
def wsX0_moveFrom : List Cond := .code yX0_moveFrom cX0_moveFrom 5 (some .int) :: ((wsX0_moveFrom_r1 ++ wsX0_moveFrom_r2) ++ wsX00 ++ wsX20)
def wsX0_restsOn : List Cond := .code yX0_restsOn cX0_restsOn 5 (some .boolean) :: ([.fieldLink RX0 11 "Ghostracer$Book" "laps" "[LGhostracer$Lap;", .fieldLink RX0 47 "Ghostracer$Lap" "base" "I", .methodLink RX0 22 yX0_has, .instanceMethod yX0_has, .selects RX0 yX0_has yX0_has, .initialized RX0, .code yX0_has cX0_has 2 (some .boolean), .fieldLink RX0 18 "Ghostracer$Book" "count" "I"] ++ wsX00 ++ wsX20)
def wsX0_countResting : List Cond := .code yX0_countResting cX0_countResting 4 (some .int) :: ([.fieldLink RX0 18 "Ghostracer$Book" "count" "I", .methodLink RX0 60 yX0_restsOn, .instanceMethod yX0_restsOn, .selects RX0 yX0_restsOn yX0_restsOn, .initialized RX0, .code yX0_restsOn cX0_restsOn 5 (some .boolean), .fieldLink RX0 11 "Ghostracer$Book" "laps" "[LGhostracer$Lap;", .fieldLink RX0 47 "Ghostracer$Lap" "base" "I", .methodLink RX0 22 yX0_has, .instanceMethod yX0_has, .selects RX0 yX0_has yX0_has, .code yX0_has cX0_has 2 (some .boolean)] ++ wsX00 ++ wsX20)
def wsX0_countStanding : List Cond := .code yX0_countStanding cX0_countStanding 3 (some .int) :: ([.fieldLink RX0 18 "Ghostracer$Book" "count" "I", .fieldLink RX0 11 "Ghostracer$Book" "laps" "[LGhostracer$Lap;", .fieldLink RX0 29 "Ghostracer$Lap" "stands" "Z"] ++ wsX00 ++ wsX20)
def wsX2_counted : List Cond := .code yX2_counted cX2_counted 1 (some .int) :: ([.fieldLink RX2 25 "Ghostracer$Lap" "time" "I", .fieldLink RX2 30 "Ghostracer$Lap" "penalty" "I"] ++ wsX20)
def wsX0_isAhead : List Cond := .code yX0_isAhead cX0_isAhead 5 (some .boolean) :: ([.fieldLink RX0 11 "Ghostracer$Book" "laps" "[LGhostracer$Lap;", .methodLink RX0 22 yX0_has, .instanceMethod yX0_has, .selects RX0 yX0_has yX0_has, .initialized RX0, .code yX0_has cX0_has 2 (some .boolean), .fieldLink RX0 18 "Ghostracer$Book" "count" "I", .methodLink RX0 67 yX2_counted, .instanceMethod yX2_counted, .selects RX2 yX2_counted yX2_counted, .initialized RX2, .code yX2_counted cX2_counted 1 (some .int), .fieldLink RX2 25 "Ghostracer$Lap" "time" "I", .fieldLink RX2 30 "Ghostracer$Lap" "penalty" "I"] ++ wsX00 ++ wsX20)
def wsX0_leastOn : List Cond := .code yX0_leastOn cX0_leastOn 4 (some .int) :: ([.fieldLink RX0 18 "Ghostracer$Book" "count" "I", .fieldLink RX0 11 "Ghostracer$Book" "laps" "[LGhostracer$Lap;", .fieldLink RX0 29 "Ghostracer$Lap" "stands" "Z", .fieldLink RX0 26 "Ghostracer$Lap" "track" "I", .methodLink RX0 64 yX0_isAhead, .instanceMethod yX0_isAhead, .selects RX0 yX0_isAhead yX0_isAhead, .initialized RX0, .code yX0_isAhead cX0_isAhead 5 (some .boolean), .methodLink RX0 22 yX0_has, .instanceMethod yX0_has, .selects RX0 yX0_has yX0_has, .code yX0_has cX0_has 2 (some .boolean), .methodLink RX0 67 yX2_counted, .instanceMethod yX2_counted, .selects RX2 yX2_counted yX2_counted, .initialized RX2, .code yX2_counted cX2_counted 1 (some .int), .fieldLink RX2 25 "Ghostracer$Lap" "time" "I", .fieldLink RX2 30 "Ghostracer$Lap" "penalty" "I"] ++ wsX00 ++ wsX20)
def wsX1_init : List Cond := .code yX1_init cX1_init 1 none :: ([.methodLink RX1 1 objectInit, .instanceMethod objectInit, .code objectInit ⟨#[0xb1]⟩ 1 none])
def wsX1_speedAfter : List Cond := .code yX1_speedAfter cX1_speedAfter 3 (some .int) :: ([.fieldLink RX1 7 "Ghostracer$Car" "top" "I", .fieldLink RX1 13 "Ghostracer$Car" "pull" "I", .methodLink RX1 16 Lib.Math.min.name, .static Lib.Math.min.name, .initialized "java/lang/Math", .code Lib.Math.min.name Lib.Math.min.code 2 (some .int), .methodLink RX1 22 Lib.Math.max.name, .static Lib.Math.max.name, .code Lib.Math.max.name Lib.Math.max.code 2 (some .int)] ++ wsX10)
def wsX2_keep : List Cond := .code yX2_keep cX2_keep 4 none :: ([.fieldLink RX2 15 "Ghostracer$Ride" "ticks" "I", .fieldLink RX2 9 "Ghostracer$Lap" "inputs" "[C", .fieldLink RX2 21 "Ghostracer$Lap" "ticks" "I", .fieldLink RX2 22 "Ghostracer$Ride" "time" "I", .fieldLink RX2 25 "Ghostracer$Lap" "time" "I", .fieldLink RX2 26 "Ghostracer$Lap" "stands" "Z"] ++ wsX30 ++ wsX20)
def wsX3_init : List Cond := .code yX3_init cX3_init 1 none :: ([.methodLink RX3 1 objectInit, .instanceMethod objectInit, .code objectInit ⟨#[0xb1]⟩ 1 none])
def wsX3_finish : List Cond := .code yX3_finish cX3_finish 3 none :: ([.fieldLink RX3 22 "Ghostracer$Ride" "isOver" "Z", .fieldLink RX3 13 "Ghostracer$Ride" "speed" "I", .fieldLink RX3 16 "Ghostracer$Ride" "ticks" "I", .fieldLink RX3 19 "Ghostracer$Ride" "time" "I"] ++ wsX30)
def wsX5_limitOf : List Cond := .code yX5_limitOf cX5_limitOf 3 (some .int) :: ([.fieldLink RX5 18 "Ghostracer$Track" "stretches" "I", .fieldLink RX5 9 "Ghostracer$Track" "ends" "[I", .fieldLink RX5 15 "Ghostracer$Track" "limits" "[I"] ++ wsX50)
def wsX3_move_r1 : List Cond := [Cond.fieldLink RX3 16 "Ghostracer$Ride" "ticks" "I", Cond.fieldLink RX3 13 "Ghostracer$Ride" "speed" "I", Cond.fieldLink RX3 7 "Ghostracer$Ride" "place" "I", Cond.fieldLink RX3 36 "Ghostracer$Track" "length" "I", Cond.fieldLink RX3 49 "Ghostracer$Car" "grip" "I", Cond.methodLink RX3 30 yX1_speedAfter, Cond.instanceMethod yX1_speedAfter, Cond.selects RX1 yX1_speedAfter yX1_speedAfter, Cond.initialized RX1, Cond.code yX1_speedAfter cX1_speedAfter 3 (some .int), Cond.fieldLink RX1 7 "Ghostracer$Car" "top" "I", Cond.fieldLink RX1 13 "Ghostracer$Car" "pull" "I", Cond.methodLink RX1 16 Lib.Math.min.name, Cond.static Lib.Math.min.name, Cond.initialized "java/lang/Math", Cond.code Lib.Math.min.name Lib.Math.min.code 2 (some .int), Cond.methodLink RX1 22 Lib.Math.max.name, Cond.static Lib.Math.max.name, Cond.code Lib.Math.max.name Lib.Math.max.code 2 (some .int), Cond.methodLink RX3 41 yX3_finish, Cond.instanceMethod yX3_finish, Cond.selects RX3 yX3_finish yX3_finish, Cond.initialized RX3, Cond.code yX3_finish cX3_finish 3 none]
def wsX3_move_r2 : List Cond := [Cond.fieldLink RX3 22 "Ghostracer$Ride" "isOver" "Z", Cond.fieldLink RX3 19 "Ghostracer$Ride" "time" "I", Cond.methodLink RX3 45 yX5_limitOf, Cond.instanceMethod yX5_limitOf, Cond.selects RX5 yX5_limitOf yX5_limitOf, Cond.initialized RX5, Cond.code yX5_limitOf cX5_limitOf 3 (some .int), Cond.fieldLink RX5 18 "Ghostracer$Track" "stretches" "I", Cond.fieldLink RX5 9 "Ghostracer$Track" "ends" "[I", Cond.fieldLink RX5 15 "Ghostracer$Track" "limits" "[I"]
def wsX3_move : List Cond := .code yX3_move cX3_move 4 none :: ((wsX3_move_r1 ++ wsX3_move_r2) ++ wsX30 ++ wsX50 ++ wsX10)
def wsX3_follow_r1 : List Cond := [Cond.fieldLink RX3 7 "Ghostracer$Ride" "place" "I", Cond.fieldLink RX3 13 "Ghostracer$Ride" "speed" "I", Cond.fieldLink RX3 16 "Ghostracer$Ride" "ticks" "I", Cond.fieldLink RX3 19 "Ghostracer$Ride" "time" "I", Cond.fieldLink RX3 22 "Ghostracer$Ride" "isOver" "Z", Cond.methodLink RX3 26 yX3_move, Cond.instanceMethod yX3_move, Cond.selects RX3 yX3_move yX3_move, Cond.initialized RX3, Cond.code yX3_move cX3_move 4 none, Cond.fieldLink RX3 36 "Ghostracer$Track" "length" "I", Cond.fieldLink RX3 49 "Ghostracer$Car" "grip" "I", Cond.methodLink RX3 30 yX1_speedAfter, Cond.instanceMethod yX1_speedAfter, Cond.selects RX1 yX1_speedAfter yX1_speedAfter, Cond.initialized RX1, Cond.code yX1_speedAfter cX1_speedAfter 3 (some .int), Cond.fieldLink RX1 7 "Ghostracer$Car" "top" "I", Cond.fieldLink RX1 13 "Ghostracer$Car" "pull" "I", Cond.methodLink RX1 16 Lib.Math.min.name, Cond.static Lib.Math.min.name, Cond.initialized "java/lang/Math", Cond.code Lib.Math.min.name Lib.Math.min.code 2 (some .int), Cond.methodLink RX1 22 Lib.Math.max.name]
def wsX3_follow_r2 : List Cond := [Cond.static Lib.Math.max.name, Cond.code Lib.Math.max.name Lib.Math.max.code 2 (some .int), Cond.methodLink RX3 41 yX3_finish, Cond.instanceMethod yX3_finish, Cond.selects RX3 yX3_finish yX3_finish, Cond.code yX3_finish cX3_finish 3 none, Cond.methodLink RX3 45 yX5_limitOf, Cond.instanceMethod yX5_limitOf, Cond.selects RX5 yX5_limitOf yX5_limitOf, Cond.initialized RX5, Cond.code yX5_limitOf cX5_limitOf 3 (some .int), Cond.fieldLink RX5 18 "Ghostracer$Track" "stretches" "I", Cond.fieldLink RX5 9 "Ghostracer$Track" "ends" "[I", Cond.fieldLink RX5 15 "Ghostracer$Track" "limits" "[I"]
def wsX3_follow : List Cond := .code yX3_follow cX3_follow 6 none :: ((wsX3_follow_r1 ++ wsX3_follow_r2) ++ wsX30 ++ wsX50 ++ wsX10)
def wsX4_init : List Cond := .code yX4_init cX4_init 1 none :: ([.methodLink RX4 3 objectInit, .instanceMethod objectInit, .code objectInit ⟨#[0xb1]⟩ 1 none, .arrayClass .int, .fieldLink RX4 9 "Ghostracer$Season" "tracks" "[I", .fieldLink RX4 15 "Ghostracer$Season" "open" "I", .fieldLink RX4 19 "Ghostracer$Season" "lapOf" "[I", .fieldLink RX4 22 "Ghostracer$Season" "scores" "[I", .fieldLink RX4 25 "Ghostracer$Season" "points" "[I", .fieldLink RX4 28 "Ghostracer$Season" "won" "[I"] ++ wsX40)
def wsX4_openOn : List Cond := .code yX4_openOn cX4_openOn 2 none :: ([.fieldLink RX4 31 "Ghostracer$Season" "rounds" "I", .fieldLink RX4 9 "Ghostracer$Season" "tracks" "[I", .fieldLink RX4 15 "Ghostracer$Season" "open" "I"] ++ wsX40)
def wsX4_roundOn : List Cond := .code yX4_roundOn cX4_roundOn 2 (some .int) :: ([.fieldLink RX4 15 "Ghostracer$Season" "open" "I", .fieldLink RX4 31 "Ghostracer$Season" "rounds" "I", .fieldLink RX4 9 "Ghostracer$Season" "tracks" "[I"] ++ wsX40)
def wsX4_findLaps : List Cond := .code yX4_findLaps cX4_findLaps 5 none :: ([.fieldLink RX4 19 "Ghostracer$Season" "lapOf" "[I", .fieldLink RX4 34 "Ghostracer$Book" "count" "I", .fieldLink RX4 39 "Ghostracer$Book" "laps" "[LGhostracer$Lap;", .fieldLink RX4 43 "Ghostracer$Lap" "stands" "Z", .fieldLink RX4 49 "Ghostracer$Lap" "round" "I", .fieldLink RX4 52 "Ghostracer$Lap" "driver" "I", .methodLink RX4 55 yX0_isAhead, .instanceMethod yX0_isAhead, .selects RX0 yX0_isAhead yX0_isAhead, .initialized RX0, .code yX0_isAhead cX0_isAhead 5 (some .boolean), .fieldLink RX0 11 "Ghostracer$Book" "laps" "[LGhostracer$Lap;", .methodLink RX0 22 yX0_has, .instanceMethod yX0_has, .selects RX0 yX0_has yX0_has, .code yX0_has cX0_has 2 (some .boolean), .fieldLink RX0 18 "Ghostracer$Book" "count" "I", .methodLink RX0 67 yX2_counted, .instanceMethod yX2_counted, .selects RX2 yX2_counted yX2_counted, .initialized RX2, .code yX2_counted cX2_counted 1 (some .int), .fieldLink RX2 25 "Ghostracer$Lap" "time" "I", .fieldLink RX2 30 "Ghostracer$Lap" "penalty" "I"] ++ wsX40 ++ wsX00 ++ wsX20)
def wsX4_lapsAhead : List Cond := .code yX4_lapsAhead cX4_lapsAhead 5 (some .int) :: ([.fieldLink RX4 19 "Ghostracer$Season" "lapOf" "[I", .methodLink RX4 55 yX0_isAhead, .instanceMethod yX0_isAhead, .selects RX0 yX0_isAhead yX0_isAhead, .initialized RX0, .code yX0_isAhead cX0_isAhead 5 (some .boolean), .fieldLink RX0 11 "Ghostracer$Book" "laps" "[LGhostracer$Lap;", .methodLink RX0 22 yX0_has, .instanceMethod yX0_has, .selects RX0 yX0_has yX0_has, .code yX0_has cX0_has 2 (some .boolean), .fieldLink RX0 18 "Ghostracer$Book" "count" "I", .methodLink RX0 67 yX2_counted, .instanceMethod yX2_counted, .selects RX2 yX2_counted yX2_counted, .initialized RX2, .code yX2_counted cX2_counted 1 (some .int), .fieldLink RX2 25 "Ghostracer$Lap" "time" "I", .fieldLink RX2 30 "Ghostracer$Lap" "penalty" "I"] ++ wsX40 ++ wsX00 ++ wsX20)
def wsX4_score_r1 : List Cond := [Cond.fieldLink RX4 19 "Ghostracer$Season" "lapOf" "[I", Cond.fieldLink RX4 28 "Ghostracer$Season" "won" "[I", Cond.fieldLink RX4 22 "Ghostracer$Season" "scores" "[I", Cond.fieldLink RX4 25 "Ghostracer$Season" "points" "[I", Cond.methodLink RX4 74 yX4_lapsAhead, Cond.instanceMethod yX4_lapsAhead, Cond.selects RX4 yX4_lapsAhead yX4_lapsAhead, Cond.initialized RX4, Cond.code yX4_lapsAhead cX4_lapsAhead 5 (some .int), Cond.methodLink RX4 55 yX0_isAhead, Cond.instanceMethod yX0_isAhead, Cond.selects RX0 yX0_isAhead yX0_isAhead, Cond.initialized RX0, Cond.code yX0_isAhead cX0_isAhead 5 (some .boolean), Cond.fieldLink RX0 11 "Ghostracer$Book" "laps" "[LGhostracer$Lap;", Cond.methodLink RX0 22 yX0_has, Cond.instanceMethod yX0_has, Cond.selects RX0 yX0_has yX0_has, Cond.code yX0_has cX0_has 2 (some .boolean), Cond.fieldLink RX0 18 "Ghostracer$Book" "count" "I", Cond.methodLink RX0 67 yX2_counted, Cond.instanceMethod yX2_counted, Cond.selects RX2 yX2_counted yX2_counted, Cond.initialized RX2]
def wsX4_score_r2 : List Cond := [Cond.code yX2_counted cX2_counted 1 (some .int), Cond.fieldLink RX2 25 "Ghostracer$Lap" "time" "I", Cond.fieldLink RX2 30 "Ghostracer$Lap" "penalty" "I"]
def wsX4_score : List Cond := .code yX4_score cX4_score 6 none :: ((wsX4_score_r1 ++ wsX4_score_r2) ++ wsX40 ++ wsX00 ++ wsX20)
def wsX4_takeLeast : List Cond := .code yX4_takeLeast cX4_takeLeast 5 (some .int) :: ([.fieldLink RX4 31 "Ghostracer$Season" "rounds" "I", .fieldLink RX4 22 "Ghostracer$Season" "scores" "[I", .constant RX4 83 (2147483647)] ++ wsX40)
def wsX4_reckon_r1 : List Cond := [Cond.fieldLink RX4 25 "Ghostracer$Season" "points" "[I", Cond.fieldLink RX4 28 "Ghostracer$Season" "won" "[I", Cond.fieldLink RX4 31 "Ghostracer$Season" "rounds" "I", Cond.fieldLink RX4 67 "Ghostracer$Season" "dropped" "I", Cond.methodLink RX4 59 yX4_findLaps, Cond.instanceMethod yX4_findLaps, Cond.selects RX4 yX4_findLaps yX4_findLaps, Cond.initialized RX4, Cond.code yX4_findLaps cX4_findLaps 5 none, Cond.fieldLink RX4 19 "Ghostracer$Season" "lapOf" "[I", Cond.fieldLink RX4 34 "Ghostracer$Book" "count" "I", Cond.fieldLink RX4 39 "Ghostracer$Book" "laps" "[LGhostracer$Lap;", Cond.fieldLink RX4 43 "Ghostracer$Lap" "stands" "Z", Cond.fieldLink RX4 49 "Ghostracer$Lap" "round" "I", Cond.fieldLink RX4 52 "Ghostracer$Lap" "driver" "I", Cond.methodLink RX4 55 yX0_isAhead, Cond.instanceMethod yX0_isAhead, Cond.selects RX0 yX0_isAhead yX0_isAhead, Cond.initialized RX0, Cond.code yX0_isAhead cX0_isAhead 5 (some .boolean), Cond.fieldLink RX0 11 "Ghostracer$Book" "laps" "[LGhostracer$Lap;", Cond.methodLink RX0 22 yX0_has, Cond.instanceMethod yX0_has, Cond.selects RX0 yX0_has yX0_has]
def wsX4_reckon_r2 : List Cond := [Cond.code yX0_has cX0_has 2 (some .boolean), Cond.fieldLink RX0 18 "Ghostracer$Book" "count" "I", Cond.methodLink RX0 67 yX2_counted, Cond.instanceMethod yX2_counted, Cond.selects RX2 yX2_counted yX2_counted, Cond.initialized RX2, Cond.code yX2_counted cX2_counted 1 (some .int), Cond.fieldLink RX2 25 "Ghostracer$Lap" "time" "I", Cond.fieldLink RX2 30 "Ghostracer$Lap" "penalty" "I", Cond.methodLink RX4 63 yX4_score, Cond.instanceMethod yX4_score, Cond.selects RX4 yX4_score yX4_score, Cond.code yX4_score cX4_score 6 none, Cond.fieldLink RX4 22 "Ghostracer$Season" "scores" "[I", Cond.methodLink RX4 74 yX4_lapsAhead, Cond.instanceMethod yX4_lapsAhead, Cond.selects RX4 yX4_lapsAhead yX4_lapsAhead, Cond.code yX4_lapsAhead cX4_lapsAhead 5 (some .int), Cond.methodLink RX4 70 yX4_takeLeast, Cond.instanceMethod yX4_takeLeast, Cond.selects RX4 yX4_takeLeast yX4_takeLeast, Cond.code yX4_takeLeast cX4_takeLeast 5 (some .int), Cond.constant RX4 83 (2147483647)]
def wsX4_reckon : List Cond := .code yX4_reckon cX4_reckon 4 none :: ((wsX4_reckon_r1 ++ wsX4_reckon_r2) ++ wsX40 ++ wsX00 ++ wsX20)
def wsX4_isAheadInSeason : List Cond := .code yX4_isAheadInSeason cX4_isAheadInSeason 3 (some .boolean) :: ([.fieldLink RX4 25 "Ghostracer$Season" "points" "[I", .fieldLink RX4 28 "Ghostracer$Season" "won" "[I"] ++ wsX40)
def wsX4_driverBehind : List Cond := .code yX4_driverBehind cX4_driverBehind 6 (some .int) :: ([.methodLink RX4 84 yX4_isAheadInSeason, .instanceMethod yX4_isAheadInSeason, .selects RX4 yX4_isAheadInSeason yX4_isAheadInSeason, .initialized RX4, .code yX4_isAheadInSeason cX4_isAheadInSeason 3 (some .boolean), .fieldLink RX4 25 "Ghostracer$Season" "points" "[I", .fieldLink RX4 28 "Ghostracer$Season" "won" "[I"] ++ wsX40)
def wsX5_init : List Cond := .code yX5_init cX5_init 1 none :: ([.methodLink RX5 3 objectInit, .instanceMethod objectInit, .code objectInit ⟨#[0xb1]⟩ 1 none, .arrayClass .int, .fieldLink RX5 9 "Ghostracer$Track" "ends" "[I", .fieldLink RX5 15 "Ghostracer$Track" "limits" "[I"] ++ wsX50)
def wsX5_append : List Cond := .code yX5_append cX5_append 3 none :: ([.fieldLink RX5 18 "Ghostracer$Track" "stretches" "I", .fieldLink RX5 22 "Ghostracer$Track" "length" "I", .fieldLink RX5 9 "Ghostracer$Track" "ends" "[I", .fieldLink RX5 15 "Ghostracer$Track" "limits" "[I"] ++ wsX50)
def wsX6_init_r1 : List Cond := [Cond.methodLink RX6 1 objectInit, Cond.instanceMethod objectInit, Cond.code objectInit ⟨#[0xb1]⟩ 1 none, Cond.classLink RX6 9 RX5, Cond.fieldLink RX6 11 "Ghostracer" "tracks" "[LGhostracer$Track;", Cond.classLink RX6 15 RX1, Cond.fieldLink RX6 17 "Ghostracer" "cars" "[LGhostracer$Car;", Cond.arrayClass .char, Cond.fieldLink RX6 21 "Ghostracer" "typed" "[C", Cond.classLink RX6 25 RX3, Cond.instantiable RX3 5, Cond.initialized RX3, Cond.fieldLink RX6 28 "Ghostracer" "ride" "LGhostracer$Ride;", Cond.classLink RX6 32 RX0, Cond.instantiable RX0 2, Cond.initialized RX0, Cond.fieldLink RX6 35 "Ghostracer" "book" "LGhostracer$Book;", Cond.classLink RX6 39 RX4, Cond.instantiable RX4 8, Cond.initialized RX4, Cond.fieldLink RX6 42 "Ghostracer" "season" "LGhostracer$Season;", Cond.instantiable RX5 5, Cond.initialized RX5, Cond.instantiable RX1 3]
def wsX6_init_r2 : List Cond := [Cond.initialized RX1, Cond.instanceMethod yX3_init, Cond.code yX3_init cX3_init 1 none, Cond.methodLink RX3 1 objectInit, Cond.methodLink RX6 34 yX0_init, Cond.instanceMethod yX0_init, Cond.code yX0_init cX0_init 2 none, Cond.methodLink RX0 3 objectInit, Cond.classLink RX0 9 RX2, Cond.fieldLink RX0 11 "Ghostracer$Book" "laps" "[LGhostracer$Lap;", Cond.instantiable RX2 13, Cond.initialized RX2, Cond.instanceMethod yX2_init, Cond.code yX2_init cX2_init 1 none, Cond.methodLink RX2 3 objectInit, Cond.fieldLink RX2 9 "Ghostracer$Lap" "inputs" "[C", Cond.instanceMethod yX4_init, Cond.code yX4_init cX4_init 1 none, Cond.methodLink RX4 3 objectInit, Cond.arrayClass .int, Cond.fieldLink RX4 9 "Ghostracer$Season" "tracks" "[I", Cond.fieldLink RX4 15 "Ghostracer$Season" "open" "I", Cond.fieldLink RX4 19 "Ghostracer$Season" "lapOf" "[I", Cond.fieldLink RX4 22 "Ghostracer$Season" "scores" "[I"]
def wsX6_init_r3 : List Cond := [Cond.fieldLink RX4 25 "Ghostracer$Season" "points" "[I", Cond.fieldLink RX4 28 "Ghostracer$Season" "won" "[I", Cond.instanceMethod yX5_init, Cond.code yX5_init cX5_init 1 none, Cond.methodLink RX5 3 objectInit, Cond.fieldLink RX5 9 "Ghostracer$Track" "ends" "[I", Cond.fieldLink RX5 15 "Ghostracer$Track" "limits" "[I", Cond.instanceMethod yX1_init, Cond.code yX1_init cX1_init 1 none, Cond.methodLink RX1 1 objectInit]
def wsX6_init : List Cond := .code yX6_init cX6_init 2 none :: ((wsX6_init_r1 ++ (wsX6_init_r2 ++ wsX6_init_r3)) ++ wsX60 ++ wsX30 ++ wsX00 ++ wsX40 ++ wsX50 ++ wsX10 ++ wsX20)
def wsX6_track : List Cond := .code yX6_track cX6_track 1 (some .int) :: ([.classLink RX6 52 "java/lang/IllegalStateException", .initialized "java/lang/IllegalStateException", .fieldLink RX6 48 "Ghostracer" "trackCount" "I"] ++ wsX60 ++ (vx_atS RX6 56 "java/lang/IllegalStateException" ["java/lang/RuntimeException", "java/lang/Exception"]).filter goodWord)
def wsX6_trackNumbered : List Cond := .code yX6_trackNumbered cX6_trackNumbered 2 (some (.object "Ghostracer$Track")) :: ([.classLink RX6 289 "java/lang/IndexOutOfBoundsException", .initialized "java/lang/IndexOutOfBoundsException", .fieldLink RX6 48 "Ghostracer" "trackCount" "I", .fieldLink RX6 11 "Ghostracer" "tracks" "[LGhostracer$Track;"] ++ wsX60 ++ (vx_atS RX6 293 "java/lang/IndexOutOfBoundsException" ["java/lang/RuntimeException", "java/lang/Exception"]).filter goodWord)
def wsX6_isWithin : List Cond := .code yX6_isWithin cX6_isWithin 3 (some .boolean) :: ([])
def wsX6_stretch_r1 : List Cond := [Cond.classLink RX6 67 "java/lang/IllegalArgumentException", Cond.initialized "java/lang/IllegalArgumentException", Cond.classLink RX6 76 "java/lang/UnsupportedOperationException", Cond.initialized "java/lang/UnsupportedOperationException", Cond.classLink RX6 52 "java/lang/IllegalStateException", Cond.initialized "java/lang/IllegalStateException", Cond.fieldLink RX6 72 "Ghostracer$Track" "isDriven" "Z", Cond.fieldLink RX6 81 "Ghostracer$Track" "stretches" "I", Cond.fieldLink RX6 90 "Ghostracer$Track" "length" "I", Cond.methodLink RX6 59 yX6_trackNumbered, Cond.instanceMethod yX6_trackNumbered, Cond.selects RX6 yX6_trackNumbered yX6_trackNumbered, Cond.initialized RX6, Cond.code yX6_trackNumbered cX6_trackNumbered 2 (some (.object "Ghostracer$Track")), Cond.classLink RX6 289 "java/lang/IndexOutOfBoundsException", Cond.initialized "java/lang/IndexOutOfBoundsException", Cond.fieldLink RX6 48 "Ghostracer" "trackCount" "I", Cond.fieldLink RX6 11 "Ghostracer" "tracks" "[LGhostracer$Track;", Cond.methodLink RX6 63 yX6_isWithin, Cond.static yX6_isWithin, Cond.code yX6_isWithin cX6_isWithin 3 (some .boolean), Cond.methodLink RX6 86 yX5_append, Cond.instanceMethod yX5_append, Cond.selects RX5 yX5_append yX5_append]
def wsX6_stretch_r2 : List Cond := [Cond.initialized RX5, Cond.code yX5_append cX5_append 3 none, Cond.fieldLink RX5 18 "Ghostracer$Track" "stretches" "I", Cond.fieldLink RX5 22 "Ghostracer$Track" "length" "I", Cond.fieldLink RX5 9 "Ghostracer$Track" "ends" "[I", Cond.fieldLink RX5 15 "Ghostracer$Track" "limits" "[I"]
def wsX6_stretch : List Cond := .code yX6_stretch cX6_stretch 5 (some .int) :: ((wsX6_stretch_r1 ++ wsX6_stretch_r2) ++ wsX50 ++ wsX60 ++ (vx_atS RX6 71 "java/lang/IllegalArgumentException" ["java/lang/RuntimeException", "java/lang/Exception"]).filter goodWord ++ (vx_atS RX6 80 "java/lang/UnsupportedOperationException" ["java/lang/RuntimeException", "java/lang/Exception"]).filter goodWord ++ (vx_atS RX6 56 "java/lang/IllegalStateException" ["java/lang/RuntimeException", "java/lang/Exception"]).filter goodWord ++ (vx_atS RX6 293 "java/lang/IndexOutOfBoundsException" ["java/lang/RuntimeException", "java/lang/Exception"]).filter goodWord)
def wsX6_car : List Cond := .code yX6_car cX6_car 5 (some .int) :: ([.classLink RX6 67 "java/lang/IllegalArgumentException", .initialized "java/lang/IllegalArgumentException", .classLink RX6 52 "java/lang/IllegalStateException", .initialized "java/lang/IllegalStateException", .fieldLink RX6 95 "Ghostracer" "carCount" "I", .fieldLink RX6 17 "Ghostracer" "cars" "[LGhostracer$Car;", .fieldLink RX6 100 "Ghostracer$Car" "top" "I", .fieldLink RX6 103 "Ghostracer$Car" "pull" "I", .fieldLink RX6 106 "Ghostracer$Car" "grip" "I", .methodLink RX6 63 yX6_isWithin, .static yX6_isWithin, .initialized RX6, .code yX6_isWithin cX6_isWithin 3 (some .boolean)] ++ wsX60 ++ wsX10 ++ (vx_atS RX6 71 "java/lang/IllegalArgumentException" ["java/lang/RuntimeException", "java/lang/Exception"]).filter goodWord ++ (vx_atS RX6 56 "java/lang/IllegalStateException" ["java/lang/RuntimeException", "java/lang/Exception"]).filter goodWord)
def wsX6_lengthOf : List Cond := .code yX6_lengthOf cX6_lengthOf 2 (some .int) :: ([.fieldLink RX6 90 "Ghostracer$Track" "length" "I", .methodLink RX6 59 yX6_trackNumbered, .instanceMethod yX6_trackNumbered, .selects RX6 yX6_trackNumbered yX6_trackNumbered, .initialized RX6, .code yX6_trackNumbered cX6_trackNumbered 2 (some (.object "Ghostracer$Track")), .classLink RX6 289 "java/lang/IndexOutOfBoundsException", .initialized "java/lang/IndexOutOfBoundsException", .fieldLink RX6 48 "Ghostracer" "trackCount" "I", .fieldLink RX6 11 "Ghostracer" "tracks" "[LGhostracer$Track;"] ++ wsX50 ++ wsX60 ++ (vx_atS RX6 293 "java/lang/IndexOutOfBoundsException" ["java/lang/RuntimeException", "java/lang/Exception"]).filter goodWord)
def wsX6_limitAt : List Cond := .code yX6_limitAt cX6_limitAt 4 (some .int) :: ([.classLink RX6 109 "java/util/NoSuchElementException", .initialized "java/util/NoSuchElementException", .fieldLink RX6 90 "Ghostracer$Track" "length" "I", .methodLink RX6 59 yX6_trackNumbered, .instanceMethod yX6_trackNumbered, .selects RX6 yX6_trackNumbered yX6_trackNumbered, .initialized RX6, .code yX6_trackNumbered cX6_trackNumbered 2 (some (.object "Ghostracer$Track")), .classLink RX6 289 "java/lang/IndexOutOfBoundsException", .initialized "java/lang/IndexOutOfBoundsException", .fieldLink RX6 48 "Ghostracer" "trackCount" "I", .fieldLink RX6 11 "Ghostracer" "tracks" "[LGhostracer$Track;", .methodLink RX6 114 yX5_limitOf, .instanceMethod yX5_limitOf, .selects RX5 yX5_limitOf yX5_limitOf, .initialized RX5, .code yX5_limitOf cX5_limitOf 3 (some .int), .fieldLink RX5 18 "Ghostracer$Track" "stretches" "I", .fieldLink RX5 9 "Ghostracer$Track" "ends" "[I", .fieldLink RX5 15 "Ghostracer$Track" "limits" "[I"] ++ wsX50 ++ wsX60 ++ (vx_atS RX6 113 "java/util/NoSuchElementException" ["java/lang/RuntimeException", "java/lang/Exception"]).filter goodWord ++ (vx_atS RX6 293 "java/lang/IndexOutOfBoundsException" ["java/lang/RuntimeException", "java/lang/Exception"]).filter goodWord)
def wsX6_type : List Cond := .code yX6_type cX6_type 6 (some .int) :: ([.classLink RX6 67 "java/lang/IllegalArgumentException", .initialized "java/lang/IllegalArgumentException", .classLink RX6 52 "java/lang/IllegalStateException", .initialized "java/lang/IllegalStateException", .fieldLink RX6 120 "Ghostracer" "typedCount" "I", .fieldLink RX6 21 "Ghostracer" "typed" "[C", .methodLink RX6 63 yX6_isWithin, .static yX6_isWithin, .initialized RX6, .code yX6_isWithin cX6_isWithin 3 (some .boolean)] ++ wsX60 ++ (vx_atS RX6 71 "java/lang/IllegalArgumentException" ["java/lang/RuntimeException", "java/lang/Exception"]).filter goodWord ++ (vx_atS RX6 56 "java/lang/IllegalStateException" ["java/lang/RuntimeException", "java/lang/Exception"]).filter goodWord)
def wsX6_wipe : List Cond := .code yX6_wipe cX6_wipe 2 (some .int) :: ([.fieldLink RX6 120 "Ghostracer" "typedCount" "I"] ++ wsX60)
def wsX6_requireDriver : List Cond := .code yX6_requireDriver cX6_requireDriver 2 none :: ([.classLink RX6 289 "java/lang/IndexOutOfBoundsException", .initialized "java/lang/IndexOutOfBoundsException"] ++ (vx_atS RX6 293 "java/lang/IndexOutOfBoundsException" ["java/lang/RuntimeException", "java/lang/Exception"]).filter goodWord)
def wsX6_carNumbered : List Cond := .code yX6_carNumbered cX6_carNumbered 2 (some (.object "Ghostracer$Car")) :: ([.classLink RX6 289 "java/lang/IndexOutOfBoundsException", .initialized "java/lang/IndexOutOfBoundsException", .fieldLink RX6 95 "Ghostracer" "carCount" "I", .fieldLink RX6 17 "Ghostracer" "cars" "[LGhostracer$Car;"] ++ wsX60 ++ (vx_atS RX6 293 "java/lang/IndexOutOfBoundsException" ["java/lang/RuntimeException", "java/lang/Exception"]).filter goodWord)
def wsX6_rideTyped_r1 : List Cond := [Cond.classLink RX6 76 "java/lang/UnsupportedOperationException", Cond.initialized "java/lang/UnsupportedOperationException", Cond.fieldLink RX6 81 "Ghostracer$Track" "stretches" "I", Cond.fieldLink RX6 28 "Ghostracer" "ride" "LGhostracer$Ride;", Cond.fieldLink RX6 21 "Ghostracer" "typed" "[C", Cond.fieldLink RX6 120 "Ghostracer" "typedCount" "I", Cond.fieldLink RX6 189 "Ghostracer$Ride" "isOver" "Z", Cond.methodLink RX6 185 yX3_follow, Cond.instanceMethod yX3_follow, Cond.selects RX3 yX3_follow yX3_follow, Cond.initialized RX3, Cond.code yX3_follow cX3_follow 6 none, Cond.fieldLink RX3 7 "Ghostracer$Ride" "place" "I", Cond.fieldLink RX3 13 "Ghostracer$Ride" "speed" "I", Cond.fieldLink RX3 16 "Ghostracer$Ride" "ticks" "I", Cond.fieldLink RX3 19 "Ghostracer$Ride" "time" "I", Cond.fieldLink RX3 22 "Ghostracer$Ride" "isOver" "Z", Cond.methodLink RX3 26 yX3_move, Cond.instanceMethod yX3_move, Cond.selects RX3 yX3_move yX3_move, Cond.code yX3_move cX3_move 4 none, Cond.fieldLink RX3 36 "Ghostracer$Track" "length" "I", Cond.fieldLink RX3 49 "Ghostracer$Car" "grip" "I", Cond.methodLink RX3 30 yX1_speedAfter]
def wsX6_rideTyped_r2 : List Cond := [Cond.instanceMethod yX1_speedAfter, Cond.selects RX1 yX1_speedAfter yX1_speedAfter, Cond.initialized RX1, Cond.code yX1_speedAfter cX1_speedAfter 3 (some .int), Cond.fieldLink RX1 7 "Ghostracer$Car" "top" "I", Cond.fieldLink RX1 13 "Ghostracer$Car" "pull" "I", Cond.methodLink RX1 16 Lib.Math.min.name, Cond.static Lib.Math.min.name, Cond.initialized "java/lang/Math", Cond.code Lib.Math.min.name Lib.Math.min.code 2 (some .int), Cond.methodLink RX1 22 Lib.Math.max.name, Cond.static Lib.Math.max.name, Cond.code Lib.Math.max.name Lib.Math.max.code 2 (some .int), Cond.methodLink RX3 41 yX3_finish, Cond.instanceMethod yX3_finish, Cond.selects RX3 yX3_finish yX3_finish, Cond.code yX3_finish cX3_finish 3 none, Cond.methodLink RX3 45 yX5_limitOf, Cond.instanceMethod yX5_limitOf, Cond.selects RX5 yX5_limitOf yX5_limitOf, Cond.initialized RX5, Cond.code yX5_limitOf cX5_limitOf 3 (some .int), Cond.fieldLink RX5 18 "Ghostracer$Track" "stretches" "I", Cond.fieldLink RX5 9 "Ghostracer$Track" "ends" "[I"]
def wsX6_rideTyped_r3 : List Cond := [Cond.fieldLink RX5 15 "Ghostracer$Track" "limits" "[I"]
def wsX6_rideTyped : List Cond := .code yX6_rideTyped cX6_rideTyped 3 none :: ((wsX6_rideTyped_r1 ++ (wsX6_rideTyped_r2 ++ wsX6_rideTyped_r3)) ++ wsX50 ++ wsX60 ++ wsX30 ++ wsX10 ++ (vx_atS RX6 80 "java/lang/UnsupportedOperationException" ["java/lang/RuntimeException", "java/lang/Exception"]).filter goodWord)
def wsX6_drive_r1 : List Cond := [Cond.classLink RX6 109 "java/util/NoSuchElementException", Cond.initialized "java/util/NoSuchElementException", Cond.classLink RX6 52 "java/lang/IllegalStateException", Cond.initialized "java/lang/IllegalStateException", Cond.fieldLink RX6 35 "Ghostracer" "book" "LGhostracer$Book;", Cond.fieldLink RX6 143 "Ghostracer$Book" "count" "I", Cond.fieldLink RX6 148 "Ghostracer$Book" "laps" "[LGhostracer$Lap;", Cond.fieldLink RX6 152 "Ghostracer$Lap" "driver" "I", Cond.fieldLink RX6 157 "Ghostracer$Lap" "track" "I", Cond.fieldLink RX6 160 "Ghostracer$Lap" "car" "I", Cond.fieldLink RX6 163 "Ghostracer$Lap" "ghost" "I", Cond.fieldLink RX6 42 "Ghostracer" "season" "LGhostracer$Season;", Cond.fieldLink RX6 169 "Ghostracer$Lap" "round" "I", Cond.fieldLink RX6 28 "Ghostracer" "ride" "LGhostracer$Ride;", Cond.fieldLink RX6 21 "Ghostracer" "typed" "[C", Cond.fieldLink RX6 72 "Ghostracer$Track" "isDriven" "Z", Cond.fieldLink RX6 120 "Ghostracer" "typedCount" "I", Cond.methodLink RX6 125 yX6_requireDriver, Cond.instanceMethod yX6_requireDriver, Cond.selects RX6 yX6_requireDriver yX6_requireDriver, Cond.initialized RX6, Cond.code yX6_requireDriver cX6_requireDriver 2 none, Cond.classLink RX6 289 "java/lang/IndexOutOfBoundsException", Cond.initialized "java/lang/IndexOutOfBoundsException"]
def wsX6_drive_r2 : List Cond := [Cond.methodLink RX6 59 yX6_trackNumbered, Cond.instanceMethod yX6_trackNumbered, Cond.selects RX6 yX6_trackNumbered yX6_trackNumbered, Cond.code yX6_trackNumbered cX6_trackNumbered 2 (some (.object "Ghostracer$Track")), Cond.fieldLink RX6 48 "Ghostracer" "trackCount" "I", Cond.fieldLink RX6 11 "Ghostracer" "tracks" "[LGhostracer$Track;", Cond.methodLink RX6 129 yX6_carNumbered, Cond.instanceMethod yX6_carNumbered, Cond.selects RX6 yX6_carNumbered yX6_carNumbered, Cond.code yX6_carNumbered cX6_carNumbered 2 (some (.object "Ghostracer$Car")), Cond.fieldLink RX6 95 "Ghostracer" "carCount" "I", Cond.fieldLink RX6 17 "Ghostracer" "cars" "[LGhostracer$Car;", Cond.methodLink RX6 133 yX0_hasGhost, Cond.instanceMethod yX0_hasGhost, Cond.selects RX0 yX0_hasGhost yX0_hasGhost, Cond.initialized RX0, Cond.code yX0_hasGhost cX0_hasGhost 3 (some .boolean), Cond.fieldLink RX0 11 "Ghostracer$Book" "laps" "[LGhostracer$Lap;", Cond.fieldLink RX0 26 "Ghostracer$Lap" "track" "I", Cond.fieldLink RX0 29 "Ghostracer$Lap" "stands" "Z", Cond.methodLink RX0 22 yX0_has, Cond.instanceMethod yX0_has, Cond.selects RX0 yX0_has yX0_has, Cond.code yX0_has cX0_has 2 (some .boolean)]
def wsX6_drive_r3 : List Cond := [Cond.fieldLink RX0 18 "Ghostracer$Book" "count" "I", Cond.methodLink RX6 139 yX6_rideTyped, Cond.instanceMethod yX6_rideTyped, Cond.selects RX6 yX6_rideTyped yX6_rideTyped, Cond.code yX6_rideTyped cX6_rideTyped 3 none, Cond.classLink RX6 76 "java/lang/UnsupportedOperationException", Cond.initialized "java/lang/UnsupportedOperationException", Cond.fieldLink RX6 81 "Ghostracer$Track" "stretches" "I", Cond.fieldLink RX6 189 "Ghostracer$Ride" "isOver" "Z", Cond.methodLink RX6 185 yX3_follow, Cond.instanceMethod yX3_follow, Cond.selects RX3 yX3_follow yX3_follow, Cond.initialized RX3, Cond.code yX3_follow cX3_follow 6 none, Cond.fieldLink RX3 7 "Ghostracer$Ride" "place" "I", Cond.fieldLink RX3 13 "Ghostracer$Ride" "speed" "I", Cond.fieldLink RX3 16 "Ghostracer$Ride" "ticks" "I", Cond.fieldLink RX3 19 "Ghostracer$Ride" "time" "I", Cond.fieldLink RX3 22 "Ghostracer$Ride" "isOver" "Z", Cond.methodLink RX3 26 yX3_move, Cond.instanceMethod yX3_move, Cond.selects RX3 yX3_move yX3_move, Cond.code yX3_move cX3_move 4 none, Cond.fieldLink RX3 36 "Ghostracer$Track" "length" "I"]
def wsX6_drive_r4 : List Cond := [Cond.fieldLink RX3 49 "Ghostracer$Car" "grip" "I", Cond.methodLink RX3 30 yX1_speedAfter, Cond.instanceMethod yX1_speedAfter, Cond.selects RX1 yX1_speedAfter yX1_speedAfter, Cond.initialized RX1, Cond.code yX1_speedAfter cX1_speedAfter 3 (some .int), Cond.fieldLink RX1 7 "Ghostracer$Car" "top" "I", Cond.fieldLink RX1 13 "Ghostracer$Car" "pull" "I", Cond.methodLink RX1 16 Lib.Math.min.name, Cond.static Lib.Math.min.name, Cond.initialized "java/lang/Math", Cond.code Lib.Math.min.name Lib.Math.min.code 2 (some .int), Cond.methodLink RX1 22 Lib.Math.max.name, Cond.static Lib.Math.max.name, Cond.code Lib.Math.max.name Lib.Math.max.code 2 (some .int), Cond.methodLink RX3 41 yX3_finish, Cond.instanceMethod yX3_finish, Cond.selects RX3 yX3_finish yX3_finish, Cond.code yX3_finish cX3_finish 3 none, Cond.methodLink RX3 45 yX5_limitOf, Cond.instanceMethod yX5_limitOf, Cond.selects RX5 yX5_limitOf yX5_limitOf, Cond.initialized RX5, Cond.code yX5_limitOf cX5_limitOf 3 (some .int)]
def wsX6_drive_r5 : List Cond := [Cond.fieldLink RX5 18 "Ghostracer$Track" "stretches" "I", Cond.fieldLink RX5 9 "Ghostracer$Track" "ends" "[I", Cond.fieldLink RX5 15 "Ghostracer$Track" "limits" "[I", Cond.methodLink RX6 166 yX4_roundOn, Cond.instanceMethod yX4_roundOn, Cond.selects RX4 yX4_roundOn yX4_roundOn, Cond.initialized RX4, Cond.code yX4_roundOn cX4_roundOn 2 (some .int), Cond.fieldLink RX4 15 "Ghostracer$Season" "open" "I", Cond.fieldLink RX4 31 "Ghostracer$Season" "rounds" "I", Cond.fieldLink RX4 9 "Ghostracer$Season" "tracks" "[I", Cond.methodLink RX6 172 yX2_keep, Cond.instanceMethod yX2_keep, Cond.selects RX2 yX2_keep yX2_keep, Cond.initialized RX2, Cond.code yX2_keep cX2_keep 4 none, Cond.fieldLink RX2 15 "Ghostracer$Ride" "ticks" "I", Cond.fieldLink RX2 9 "Ghostracer$Lap" "inputs" "[C", Cond.fieldLink RX2 21 "Ghostracer$Lap" "ticks" "I", Cond.fieldLink RX2 22 "Ghostracer$Ride" "time" "I", Cond.fieldLink RX2 25 "Ghostracer$Lap" "time" "I", Cond.fieldLink RX2 26 "Ghostracer$Lap" "stands" "Z", Cond.methodLink RX6 176 yX0_add, Cond.instanceMethod yX0_add]
def wsX6_drive_r6 : List Cond := [Cond.selects RX0 yX0_add yX0_add, Cond.code yX0_add cX0_add 3 none, Cond.fieldLink RX0 33 "Ghostracer$Lap" "ghost" "I", Cond.fieldLink RX0 36 "Ghostracer$Lap" "depth" "I", Cond.methodLink RX0 39 yX0_store, Cond.instanceMethod yX0_store, Cond.selects RX0 yX0_store yX0_store, Cond.code yX0_store cX0_store 3 none, Cond.fieldLink RX0 47 "Ghostracer$Lap" "base" "I", Cond.fieldLink RX0 54 "Ghostracer$Lap" "ticks" "I", Cond.fieldLink RX0 57 "Ghostracer$Lap" "parts" "I", Cond.methodLink RX0 50 yX2_inputsUnlike, Cond.instanceMethod yX2_inputsUnlike, Cond.selects RX2 yX2_inputsUnlike yX2_inputsUnlike, Cond.code yX2_inputsUnlike cX2_inputsUnlike 4 (some .int), Cond.methodLink RX0 43 yX0_settleDepth, Cond.instanceMethod yX0_settleDepth, Cond.selects RX0 yX0_settleDepth yX0_settleDepth, Cond.code yX0_settleDepth cX0_settleDepth 2 none]
def wsX6_drive : List Cond := .code yX6_drive cX6_drive 8 (some .int) :: ((wsX6_drive_r1 ++ (wsX6_drive_r2 ++ (wsX6_drive_r3 ++ (wsX6_drive_r4 ++ (wsX6_drive_r5 ++ wsX6_drive_r6))))) ++ wsX60 ++ wsX00 ++ wsX20 ++ wsX50 ++ wsX30 ++ wsX10 ++ wsX40 ++ (vx_atS RX6 113 "java/util/NoSuchElementException" ["java/lang/RuntimeException", "java/lang/Exception"]).filter goodWord ++ (vx_atS RX6 56 "java/lang/IllegalStateException" ["java/lang/RuntimeException", "java/lang/Exception"]).filter goodWord ++ (vx_atS RX6 293 "java/lang/IndexOutOfBoundsException" ["java/lang/RuntimeException", "java/lang/Exception"]).filter goodWord ++ (vx_atS RX6 80 "java/lang/UnsupportedOperationException" ["java/lang/RuntimeException", "java/lang/Exception"]).filter goodWord)
def wsX6_tryOut_r1 : List Cond := [Cond.fieldLink RX6 28 "Ghostracer" "ride" "LGhostracer$Ride;", Cond.fieldLink RX6 180 "Ghostracer$Ride" "time" "I", Cond.methodLink RX6 59 yX6_trackNumbered, Cond.instanceMethod yX6_trackNumbered, Cond.selects RX6 yX6_trackNumbered yX6_trackNumbered, Cond.initialized RX6, Cond.code yX6_trackNumbered cX6_trackNumbered 2 (some (.object "Ghostracer$Track")), Cond.classLink RX6 289 "java/lang/IndexOutOfBoundsException", Cond.initialized "java/lang/IndexOutOfBoundsException", Cond.fieldLink RX6 48 "Ghostracer" "trackCount" "I", Cond.fieldLink RX6 11 "Ghostracer" "tracks" "[LGhostracer$Track;", Cond.methodLink RX6 129 yX6_carNumbered, Cond.instanceMethod yX6_carNumbered, Cond.selects RX6 yX6_carNumbered yX6_carNumbered, Cond.code yX6_carNumbered cX6_carNumbered 2 (some (.object "Ghostracer$Car")), Cond.fieldLink RX6 95 "Ghostracer" "carCount" "I", Cond.fieldLink RX6 17 "Ghostracer" "cars" "[LGhostracer$Car;", Cond.methodLink RX6 139 yX6_rideTyped, Cond.instanceMethod yX6_rideTyped, Cond.selects RX6 yX6_rideTyped yX6_rideTyped, Cond.code yX6_rideTyped cX6_rideTyped 3 none, Cond.classLink RX6 76 "java/lang/UnsupportedOperationException", Cond.initialized "java/lang/UnsupportedOperationException", Cond.fieldLink RX6 81 "Ghostracer$Track" "stretches" "I"]
def wsX6_tryOut_r2 : List Cond := [Cond.fieldLink RX6 21 "Ghostracer" "typed" "[C", Cond.fieldLink RX6 120 "Ghostracer" "typedCount" "I", Cond.fieldLink RX6 189 "Ghostracer$Ride" "isOver" "Z", Cond.methodLink RX6 185 yX3_follow, Cond.instanceMethod yX3_follow, Cond.selects RX3 yX3_follow yX3_follow, Cond.initialized RX3, Cond.code yX3_follow cX3_follow 6 none, Cond.fieldLink RX3 7 "Ghostracer$Ride" "place" "I", Cond.fieldLink RX3 13 "Ghostracer$Ride" "speed" "I", Cond.fieldLink RX3 16 "Ghostracer$Ride" "ticks" "I", Cond.fieldLink RX3 19 "Ghostracer$Ride" "time" "I", Cond.fieldLink RX3 22 "Ghostracer$Ride" "isOver" "Z", Cond.methodLink RX3 26 yX3_move, Cond.instanceMethod yX3_move, Cond.selects RX3 yX3_move yX3_move, Cond.code yX3_move cX3_move 4 none, Cond.fieldLink RX3 36 "Ghostracer$Track" "length" "I", Cond.fieldLink RX3 49 "Ghostracer$Car" "grip" "I", Cond.methodLink RX3 30 yX1_speedAfter, Cond.instanceMethod yX1_speedAfter, Cond.selects RX1 yX1_speedAfter yX1_speedAfter, Cond.initialized RX1, Cond.code yX1_speedAfter cX1_speedAfter 3 (some .int)]
def wsX6_tryOut_r3 : List Cond := [Cond.fieldLink RX1 7 "Ghostracer$Car" "top" "I", Cond.fieldLink RX1 13 "Ghostracer$Car" "pull" "I", Cond.methodLink RX1 16 Lib.Math.min.name, Cond.static Lib.Math.min.name, Cond.initialized "java/lang/Math", Cond.code Lib.Math.min.name Lib.Math.min.code 2 (some .int), Cond.methodLink RX1 22 Lib.Math.max.name, Cond.static Lib.Math.max.name, Cond.code Lib.Math.max.name Lib.Math.max.code 2 (some .int), Cond.methodLink RX3 41 yX3_finish, Cond.instanceMethod yX3_finish, Cond.selects RX3 yX3_finish yX3_finish, Cond.code yX3_finish cX3_finish 3 none, Cond.methodLink RX3 45 yX5_limitOf, Cond.instanceMethod yX5_limitOf, Cond.selects RX5 yX5_limitOf yX5_limitOf, Cond.initialized RX5, Cond.code yX5_limitOf cX5_limitOf 3 (some .int), Cond.fieldLink RX5 18 "Ghostracer$Track" "stretches" "I", Cond.fieldLink RX5 9 "Ghostracer$Track" "ends" "[I", Cond.fieldLink RX5 15 "Ghostracer$Track" "limits" "[I"]
def wsX6_tryOut : List Cond := .code yX6_tryOut cX6_tryOut 3 (some .int) :: ((wsX6_tryOut_r1 ++ (wsX6_tryOut_r2 ++ wsX6_tryOut_r3)) ++ wsX60 ++ wsX30 ++ wsX50 ++ wsX10 ++ (vx_atS RX6 293 "java/lang/IndexOutOfBoundsException" ["java/lang/RuntimeException", "java/lang/Exception"]).filter goodWord ++ (vx_atS RX6 80 "java/lang/UnsupportedOperationException" ["java/lang/RuntimeException", "java/lang/Exception"]).filter goodWord)
def wsX6_laps : List Cond := .code yX6_laps cX6_laps 1 (some .int) :: ([.fieldLink RX6 35 "Ghostracer" "book" "LGhostracer$Book;", .fieldLink RX6 143 "Ghostracer$Book" "count" "I"] ++ wsX60 ++ wsX00)
def wsX6_lapNumbered : List Cond := .code yX6_lapNumbered cX6_lapNumbered 2 (some (.object "Ghostracer$Lap")) :: ([.classLink RX6 289 "java/lang/IndexOutOfBoundsException", .initialized "java/lang/IndexOutOfBoundsException", .fieldLink RX6 35 "Ghostracer" "book" "LGhostracer$Book;", .fieldLink RX6 148 "Ghostracer$Book" "laps" "[LGhostracer$Lap;", .methodLink RX6 225 yX0_has, .instanceMethod yX0_has, .selects RX0 yX0_has yX0_has, .initialized RX0, .code yX0_has cX0_has 2 (some .boolean), .fieldLink RX0 18 "Ghostracer$Book" "count" "I"] ++ wsX60 ++ wsX00 ++ (vx_atS RX6 293 "java/lang/IndexOutOfBoundsException" ["java/lang/RuntimeException", "java/lang/Exception"]).filter goodWord)
def wsX6_time : List Cond := .code yX6_time cX6_time 4 (some .int) :: ([.fieldLink RX6 202 "Ghostracer$Lap" "time" "I", .methodLink RX6 194 yX6_lapNumbered, .instanceMethod yX6_lapNumbered, .selects RX6 yX6_lapNumbered yX6_lapNumbered, .initialized RX6, .code yX6_lapNumbered cX6_lapNumbered 2 (some (.object "Ghostracer$Lap")), .classLink RX6 289 "java/lang/IndexOutOfBoundsException", .initialized "java/lang/IndexOutOfBoundsException", .fieldLink RX6 35 "Ghostracer" "book" "LGhostracer$Book;", .fieldLink RX6 148 "Ghostracer$Book" "laps" "[LGhostracer$Lap;", .methodLink RX6 225 yX0_has, .instanceMethod yX0_has, .selects RX0 yX0_has yX0_has, .initialized RX0, .code yX0_has cX0_has 2 (some .boolean), .fieldLink RX0 18 "Ghostracer$Book" "count" "I", .methodLink RX6 198 yX2_counted, .instanceMethod yX2_counted, .selects RX2 yX2_counted yX2_counted, .initialized RX2, .code yX2_counted cX2_counted 1 (some .int), .fieldLink RX2 25 "Ghostracer$Lap" "time" "I", .fieldLink RX2 30 "Ghostracer$Lap" "penalty" "I"] ++ wsX20 ++ wsX60 ++ wsX00 ++ (vx_atS RX6 293 "java/lang/IndexOutOfBoundsException" ["java/lang/RuntimeException", "java/lang/Exception"]).filter goodWord)
def wsX6_ticks : List Cond := .code yX6_ticks cX6_ticks 2 (some .int) :: ([.fieldLink RX6 203 "Ghostracer$Lap" "ticks" "I", .methodLink RX6 194 yX6_lapNumbered, .instanceMethod yX6_lapNumbered, .selects RX6 yX6_lapNumbered yX6_lapNumbered, .initialized RX6, .code yX6_lapNumbered cX6_lapNumbered 2 (some (.object "Ghostracer$Lap")), .classLink RX6 289 "java/lang/IndexOutOfBoundsException", .initialized "java/lang/IndexOutOfBoundsException", .fieldLink RX6 35 "Ghostracer" "book" "LGhostracer$Book;", .fieldLink RX6 148 "Ghostracer$Book" "laps" "[LGhostracer$Lap;", .methodLink RX6 225 yX0_has, .instanceMethod yX0_has, .selects RX0 yX0_has yX0_has, .initialized RX0, .code yX0_has cX0_has 2 (some .boolean), .fieldLink RX0 18 "Ghostracer$Book" "count" "I"] ++ wsX20 ++ wsX60 ++ wsX00 ++ (vx_atS RX6 293 "java/lang/IndexOutOfBoundsException" ["java/lang/RuntimeException", "java/lang/Exception"]).filter goodWord)
def wsX6_inputAt : List Cond := .code yX6_inputAt cX6_inputAt 4 (some .char) :: ([.classLink RX6 109 "java/util/NoSuchElementException", .initialized "java/util/NoSuchElementException", .fieldLink RX6 203 "Ghostracer$Lap" "ticks" "I", .fieldLink RX6 208 "Ghostracer$Lap" "inputs" "[C", .methodLink RX6 194 yX6_lapNumbered, .instanceMethod yX6_lapNumbered, .selects RX6 yX6_lapNumbered yX6_lapNumbered, .initialized RX6, .code yX6_lapNumbered cX6_lapNumbered 2 (some (.object "Ghostracer$Lap")), .classLink RX6 289 "java/lang/IndexOutOfBoundsException", .initialized "java/lang/IndexOutOfBoundsException", .fieldLink RX6 35 "Ghostracer" "book" "LGhostracer$Book;", .fieldLink RX6 148 "Ghostracer$Book" "laps" "[LGhostracer$Lap;", .methodLink RX6 225 yX0_has, .instanceMethod yX0_has, .selects RX0 yX0_has yX0_has, .initialized RX0, .code yX0_has cX0_has 2 (some .boolean), .fieldLink RX0 18 "Ghostracer$Book" "count" "I"] ++ wsX20 ++ wsX60 ++ wsX00 ++ (vx_atS RX6 113 "java/util/NoSuchElementException" ["java/lang/RuntimeException", "java/lang/Exception"]).filter goodWord ++ (vx_atS RX6 293 "java/lang/IndexOutOfBoundsException" ["java/lang/RuntimeException", "java/lang/Exception"]).filter goodWord)
def wsX6_rideAgain_r1 : List Cond := [Cond.fieldLink RX6 28 "Ghostracer" "ride" "LGhostracer$Ride;", Cond.fieldLink RX6 208 "Ghostracer$Lap" "inputs" "[C", Cond.fieldLink RX6 157 "Ghostracer$Lap" "track" "I", Cond.fieldLink RX6 160 "Ghostracer$Lap" "car" "I", Cond.methodLink RX6 59 yX6_trackNumbered, Cond.instanceMethod yX6_trackNumbered, Cond.selects RX6 yX6_trackNumbered yX6_trackNumbered, Cond.initialized RX6, Cond.code yX6_trackNumbered cX6_trackNumbered 2 (some (.object "Ghostracer$Track")), Cond.classLink RX6 289 "java/lang/IndexOutOfBoundsException", Cond.initialized "java/lang/IndexOutOfBoundsException", Cond.fieldLink RX6 48 "Ghostracer" "trackCount" "I", Cond.fieldLink RX6 11 "Ghostracer" "tracks" "[LGhostracer$Track;", Cond.methodLink RX6 129 yX6_carNumbered, Cond.instanceMethod yX6_carNumbered, Cond.selects RX6 yX6_carNumbered yX6_carNumbered, Cond.code yX6_carNumbered cX6_carNumbered 2 (some (.object "Ghostracer$Car")), Cond.fieldLink RX6 95 "Ghostracer" "carCount" "I", Cond.fieldLink RX6 17 "Ghostracer" "cars" "[LGhostracer$Car;", Cond.methodLink RX6 185 yX3_follow, Cond.instanceMethod yX3_follow, Cond.selects RX3 yX3_follow yX3_follow, Cond.initialized RX3, Cond.code yX3_follow cX3_follow 6 none]
def wsX6_rideAgain_r2 : List Cond := [Cond.fieldLink RX3 7 "Ghostracer$Ride" "place" "I", Cond.fieldLink RX3 13 "Ghostracer$Ride" "speed" "I", Cond.fieldLink RX3 16 "Ghostracer$Ride" "ticks" "I", Cond.fieldLink RX3 19 "Ghostracer$Ride" "time" "I", Cond.fieldLink RX3 22 "Ghostracer$Ride" "isOver" "Z", Cond.methodLink RX3 26 yX3_move, Cond.instanceMethod yX3_move, Cond.selects RX3 yX3_move yX3_move, Cond.code yX3_move cX3_move 4 none, Cond.fieldLink RX3 36 "Ghostracer$Track" "length" "I", Cond.fieldLink RX3 49 "Ghostracer$Car" "grip" "I", Cond.methodLink RX3 30 yX1_speedAfter, Cond.instanceMethod yX1_speedAfter, Cond.selects RX1 yX1_speedAfter yX1_speedAfter, Cond.initialized RX1, Cond.code yX1_speedAfter cX1_speedAfter 3 (some .int), Cond.fieldLink RX1 7 "Ghostracer$Car" "top" "I", Cond.fieldLink RX1 13 "Ghostracer$Car" "pull" "I", Cond.methodLink RX1 16 Lib.Math.min.name, Cond.static Lib.Math.min.name, Cond.initialized "java/lang/Math", Cond.code Lib.Math.min.name Lib.Math.min.code 2 (some .int), Cond.methodLink RX1 22 Lib.Math.max.name, Cond.static Lib.Math.max.name]
def wsX6_rideAgain_r3 : List Cond := [Cond.code Lib.Math.max.name Lib.Math.max.code 2 (some .int), Cond.methodLink RX3 41 yX3_finish, Cond.instanceMethod yX3_finish, Cond.selects RX3 yX3_finish yX3_finish, Cond.code yX3_finish cX3_finish 3 none, Cond.methodLink RX3 45 yX5_limitOf, Cond.instanceMethod yX5_limitOf, Cond.selects RX5 yX5_limitOf yX5_limitOf, Cond.initialized RX5, Cond.code yX5_limitOf cX5_limitOf 3 (some .int), Cond.fieldLink RX5 18 "Ghostracer$Track" "stretches" "I", Cond.fieldLink RX5 9 "Ghostracer$Track" "ends" "[I", Cond.fieldLink RX5 15 "Ghostracer$Track" "limits" "[I"]
def wsX6_rideAgain : List Cond := .code yX6_rideAgain cX6_rideAgain 3 none :: ((wsX6_rideAgain_r1 ++ (wsX6_rideAgain_r2 ++ wsX6_rideAgain_r3)) ++ wsX60 ++ wsX20 ++ wsX30 ++ wsX50 ++ wsX10 ++ (vx_atS RX6 293 "java/lang/IndexOutOfBoundsException" ["java/lang/RuntimeException", "java/lang/Exception"]).filter goodWord)
def wsX6_replay_r1 : List Cond := [Cond.classLink RX6 109 "java/util/NoSuchElementException", Cond.initialized "java/util/NoSuchElementException", Cond.fieldLink RX6 203 "Ghostracer$Lap" "ticks" "I", Cond.fieldLink RX6 28 "Ghostracer" "ride" "LGhostracer$Ride;", Cond.fieldLink RX6 217 "Ghostracer$Ride" "speed" "I", Cond.fieldLink RX6 220 "Ghostracer$Ride" "place" "I", Cond.methodLink RX6 194 yX6_lapNumbered, Cond.instanceMethod yX6_lapNumbered, Cond.selects RX6 yX6_lapNumbered yX6_lapNumbered, Cond.initialized RX6, Cond.code yX6_lapNumbered cX6_lapNumbered 2 (some (.object "Ghostracer$Lap")), Cond.classLink RX6 289 "java/lang/IndexOutOfBoundsException", Cond.initialized "java/lang/IndexOutOfBoundsException", Cond.fieldLink RX6 35 "Ghostracer" "book" "LGhostracer$Book;", Cond.fieldLink RX6 148 "Ghostracer$Book" "laps" "[LGhostracer$Lap;", Cond.methodLink RX6 225 yX0_has, Cond.instanceMethod yX0_has, Cond.selects RX0 yX0_has yX0_has, Cond.initialized RX0, Cond.code yX0_has cX0_has 2 (some .boolean), Cond.fieldLink RX0 18 "Ghostracer$Book" "count" "I", Cond.methodLink RX6 213 yX6_rideAgain, Cond.instanceMethod yX6_rideAgain, Cond.selects RX6 yX6_rideAgain yX6_rideAgain]
def wsX6_replay_r2 : List Cond := [Cond.code yX6_rideAgain cX6_rideAgain 3 none, Cond.fieldLink RX6 208 "Ghostracer$Lap" "inputs" "[C", Cond.fieldLink RX6 157 "Ghostracer$Lap" "track" "I", Cond.fieldLink RX6 160 "Ghostracer$Lap" "car" "I", Cond.methodLink RX6 59 yX6_trackNumbered, Cond.instanceMethod yX6_trackNumbered, Cond.selects RX6 yX6_trackNumbered yX6_trackNumbered, Cond.code yX6_trackNumbered cX6_trackNumbered 2 (some (.object "Ghostracer$Track")), Cond.fieldLink RX6 48 "Ghostracer" "trackCount" "I", Cond.fieldLink RX6 11 "Ghostracer" "tracks" "[LGhostracer$Track;", Cond.methodLink RX6 129 yX6_carNumbered, Cond.instanceMethod yX6_carNumbered, Cond.selects RX6 yX6_carNumbered yX6_carNumbered, Cond.code yX6_carNumbered cX6_carNumbered 2 (some (.object "Ghostracer$Car")), Cond.fieldLink RX6 95 "Ghostracer" "carCount" "I", Cond.fieldLink RX6 17 "Ghostracer" "cars" "[LGhostracer$Car;", Cond.methodLink RX6 185 yX3_follow, Cond.instanceMethod yX3_follow, Cond.selects RX3 yX3_follow yX3_follow, Cond.initialized RX3, Cond.code yX3_follow cX3_follow 6 none, Cond.fieldLink RX3 7 "Ghostracer$Ride" "place" "I", Cond.fieldLink RX3 13 "Ghostracer$Ride" "speed" "I", Cond.fieldLink RX3 16 "Ghostracer$Ride" "ticks" "I"]
def wsX6_replay_r3 : List Cond := [Cond.fieldLink RX3 19 "Ghostracer$Ride" "time" "I", Cond.fieldLink RX3 22 "Ghostracer$Ride" "isOver" "Z", Cond.methodLink RX3 26 yX3_move, Cond.instanceMethod yX3_move, Cond.selects RX3 yX3_move yX3_move, Cond.code yX3_move cX3_move 4 none, Cond.fieldLink RX3 36 "Ghostracer$Track" "length" "I", Cond.fieldLink RX3 49 "Ghostracer$Car" "grip" "I", Cond.methodLink RX3 30 yX1_speedAfter, Cond.instanceMethod yX1_speedAfter, Cond.selects RX1 yX1_speedAfter yX1_speedAfter, Cond.initialized RX1, Cond.code yX1_speedAfter cX1_speedAfter 3 (some .int), Cond.fieldLink RX1 7 "Ghostracer$Car" "top" "I", Cond.fieldLink RX1 13 "Ghostracer$Car" "pull" "I", Cond.methodLink RX1 16 Lib.Math.min.name, Cond.static Lib.Math.min.name, Cond.initialized "java/lang/Math", Cond.code Lib.Math.min.name Lib.Math.min.code 2 (some .int), Cond.methodLink RX1 22 Lib.Math.max.name, Cond.static Lib.Math.max.name, Cond.code Lib.Math.max.name Lib.Math.max.code 2 (some .int), Cond.methodLink RX3 41 yX3_finish, Cond.instanceMethod yX3_finish]
def wsX6_replay_r4 : List Cond := [Cond.selects RX3 yX3_finish yX3_finish, Cond.code yX3_finish cX3_finish 3 none, Cond.methodLink RX3 45 yX5_limitOf, Cond.instanceMethod yX5_limitOf, Cond.selects RX5 yX5_limitOf yX5_limitOf, Cond.initialized RX5, Cond.code yX5_limitOf cX5_limitOf 3 (some .int), Cond.fieldLink RX5 18 "Ghostracer$Track" "stretches" "I", Cond.fieldLink RX5 9 "Ghostracer$Track" "ends" "[I", Cond.fieldLink RX5 15 "Ghostracer$Track" "limits" "[I"]
def wsX6_replay : List Cond := .code yX6_replay cX6_replay 5 (some .int) :: ((wsX6_replay_r1 ++ (wsX6_replay_r2 ++ (wsX6_replay_r3 ++ wsX6_replay_r4))) ++ wsX20 ++ wsX60 ++ wsX30 ++ wsX00 ++ wsX50 ++ wsX10 ++ (vx_atS RX6 113 "java/util/NoSuchElementException" ["java/lang/RuntimeException", "java/lang/Exception"]).filter goodWord ++ (vx_atS RX6 293 "java/lang/IndexOutOfBoundsException" ["java/lang/RuntimeException", "java/lang/Exception"]).filter goodWord)
def wsX6_of : List Cond := .code yX6_of cX6_of 4 (some .int) :: ([.classLink RX6 67 "java/lang/IllegalArgumentException", .initialized "java/lang/IllegalArgumentException", .fieldLink RX6 152 "Ghostracer$Lap" "driver" "I", .fieldLink RX6 157 "Ghostracer$Lap" "track" "I", .fieldLink RX6 160 "Ghostracer$Lap" "car" "I", .fieldLink RX6 163 "Ghostracer$Lap" "ghost" "I", .fieldLink RX6 169 "Ghostracer$Lap" "round" "I", .methodLink RX6 194 yX6_lapNumbered, .instanceMethod yX6_lapNumbered, .selects RX6 yX6_lapNumbered yX6_lapNumbered, .initialized RX6, .code yX6_lapNumbered cX6_lapNumbered 2 (some (.object "Ghostracer$Lap")), .classLink RX6 289 "java/lang/IndexOutOfBoundsException", .initialized "java/lang/IndexOutOfBoundsException", .fieldLink RX6 35 "Ghostracer" "book" "LGhostracer$Book;", .fieldLink RX6 148 "Ghostracer$Book" "laps" "[LGhostracer$Lap;", .methodLink RX6 225 yX0_has, .instanceMethod yX0_has, .selects RX0 yX0_has yX0_has, .initialized RX0, .code yX0_has cX0_has 2 (some .boolean), .fieldLink RX0 18 "Ghostracer$Book" "count" "I"] ++ wsX20 ++ wsX60 ++ wsX00 ++ (vx_atS RX6 71 "java/lang/IllegalArgumentException" ["java/lang/RuntimeException", "java/lang/Exception"]).filter goodWord ++ (vx_atS RX6 293 "java/lang/IndexOutOfBoundsException" ["java/lang/RuntimeException", "java/lang/Exception"]).filter goodWord)
def wsX6_beats_r1 : List Cond := [Cond.classLink RX6 109 "java/util/NoSuchElementException", Cond.initialized "java/util/NoSuchElementException", Cond.fieldLink RX6 35 "Ghostracer" "book" "LGhostracer$Book;", Cond.fieldLink RX6 163 "Ghostracer$Lap" "ghost" "I", Cond.fieldLink RX6 148 "Ghostracer$Book" "laps" "[LGhostracer$Lap;", Cond.methodLink RX6 194 yX6_lapNumbered, Cond.instanceMethod yX6_lapNumbered, Cond.selects RX6 yX6_lapNumbered yX6_lapNumbered, Cond.initialized RX6, Cond.code yX6_lapNumbered cX6_lapNumbered 2 (some (.object "Ghostracer$Lap")), Cond.classLink RX6 289 "java/lang/IndexOutOfBoundsException", Cond.initialized "java/lang/IndexOutOfBoundsException", Cond.methodLink RX6 225 yX0_has, Cond.instanceMethod yX0_has, Cond.selects RX0 yX0_has yX0_has, Cond.initialized RX0, Cond.code yX0_has cX0_has 2 (some .boolean), Cond.fieldLink RX0 18 "Ghostracer$Book" "count" "I", Cond.methodLink RX6 198 yX2_counted, Cond.instanceMethod yX2_counted, Cond.selects RX2 yX2_counted yX2_counted, Cond.initialized RX2, Cond.code yX2_counted cX2_counted 1 (some .int), Cond.fieldLink RX2 25 "Ghostracer$Lap" "time" "I"]
def wsX6_beats_r2 : List Cond := [Cond.fieldLink RX2 30 "Ghostracer$Lap" "penalty" "I"]
def wsX6_beats : List Cond := .code yX6_beats cX6_beats 3 (some .boolean) :: ((wsX6_beats_r1 ++ wsX6_beats_r2) ++ wsX60 ++ wsX20 ++ wsX00 ++ (vx_atS RX6 113 "java/util/NoSuchElementException" ["java/lang/RuntimeException", "java/lang/Exception"]).filter goodWord ++ (vx_atS RX6 293 "java/lang/IndexOutOfBoundsException" ["java/lang/RuntimeException", "java/lang/Exception"]).filter goodWord)
def wsX6_least_r1 : List Cond := [Cond.classLink RX6 109 "java/util/NoSuchElementException", Cond.initialized "java/util/NoSuchElementException", Cond.fieldLink RX6 35 "Ghostracer" "book" "LGhostracer$Book;", Cond.methodLink RX6 59 yX6_trackNumbered, Cond.instanceMethod yX6_trackNumbered, Cond.selects RX6 yX6_trackNumbered yX6_trackNumbered, Cond.initialized RX6, Cond.code yX6_trackNumbered cX6_trackNumbered 2 (some (.object "Ghostracer$Track")), Cond.classLink RX6 289 "java/lang/IndexOutOfBoundsException", Cond.initialized "java/lang/IndexOutOfBoundsException", Cond.fieldLink RX6 48 "Ghostracer" "trackCount" "I", Cond.fieldLink RX6 11 "Ghostracer" "tracks" "[LGhostracer$Track;", Cond.methodLink RX6 231 yX0_leastOn, Cond.instanceMethod yX0_leastOn, Cond.selects RX0 yX0_leastOn yX0_leastOn, Cond.initialized RX0, Cond.code yX0_leastOn cX0_leastOn 4 (some .int), Cond.fieldLink RX0 18 "Ghostracer$Book" "count" "I", Cond.fieldLink RX0 11 "Ghostracer$Book" "laps" "[LGhostracer$Lap;", Cond.fieldLink RX0 29 "Ghostracer$Lap" "stands" "Z", Cond.fieldLink RX0 26 "Ghostracer$Lap" "track" "I", Cond.methodLink RX0 64 yX0_isAhead, Cond.instanceMethod yX0_isAhead, Cond.selects RX0 yX0_isAhead yX0_isAhead]
def wsX6_least_r2 : List Cond := [Cond.code yX0_isAhead cX0_isAhead 5 (some .boolean), Cond.methodLink RX0 22 yX0_has, Cond.instanceMethod yX0_has, Cond.selects RX0 yX0_has yX0_has, Cond.code yX0_has cX0_has 2 (some .boolean), Cond.methodLink RX0 67 yX2_counted, Cond.instanceMethod yX2_counted, Cond.selects RX2 yX2_counted yX2_counted, Cond.initialized RX2, Cond.code yX2_counted cX2_counted 1 (some .int), Cond.fieldLink RX2 25 "Ghostracer$Lap" "time" "I", Cond.fieldLink RX2 30 "Ghostracer$Lap" "penalty" "I"]
def wsX6_least : List Cond := .code yX6_least cX6_least 3 (some .int) :: ((wsX6_least_r1 ++ wsX6_least_r2) ++ wsX60 ++ wsX00 ++ wsX20 ++ (vx_atS RX6 113 "java/util/NoSuchElementException" ["java/lang/RuntimeException", "java/lang/Exception"]).filter goodWord ++ (vx_atS RX6 293 "java/lang/IndexOutOfBoundsException" ["java/lang/RuntimeException", "java/lang/Exception"]).filter goodWord)
def wsX6_base : List Cond := .code yX6_base cX6_base 3 (some .int) :: ([.classLink RX6 109 "java/util/NoSuchElementException", .initialized "java/util/NoSuchElementException", .fieldLink RX6 236 "Ghostracer$Lap" "base" "I", .methodLink RX6 194 yX6_lapNumbered, .instanceMethod yX6_lapNumbered, .selects RX6 yX6_lapNumbered yX6_lapNumbered, .initialized RX6, .code yX6_lapNumbered cX6_lapNumbered 2 (some (.object "Ghostracer$Lap")), .classLink RX6 289 "java/lang/IndexOutOfBoundsException", .initialized "java/lang/IndexOutOfBoundsException", .fieldLink RX6 35 "Ghostracer" "book" "LGhostracer$Book;", .fieldLink RX6 148 "Ghostracer$Book" "laps" "[LGhostracer$Lap;", .methodLink RX6 225 yX0_has, .instanceMethod yX0_has, .selects RX0 yX0_has yX0_has, .initialized RX0, .code yX0_has cX0_has 2 (some .boolean), .fieldLink RX0 18 "Ghostracer$Book" "count" "I"] ++ wsX20 ++ wsX60 ++ wsX00 ++ (vx_atS RX6 113 "java/util/NoSuchElementException" ["java/lang/RuntimeException", "java/lang/Exception"]).filter goodWord ++ (vx_atS RX6 293 "java/lang/IndexOutOfBoundsException" ["java/lang/RuntimeException", "java/lang/Exception"]).filter goodWord)
def wsX6_depth : List Cond := .code yX6_depth cX6_depth 2 (some .int) :: ([.fieldLink RX6 241 "Ghostracer$Lap" "depth" "I", .methodLink RX6 194 yX6_lapNumbered, .instanceMethod yX6_lapNumbered, .selects RX6 yX6_lapNumbered yX6_lapNumbered, .initialized RX6, .code yX6_lapNumbered cX6_lapNumbered 2 (some (.object "Ghostracer$Lap")), .classLink RX6 289 "java/lang/IndexOutOfBoundsException", .initialized "java/lang/IndexOutOfBoundsException", .fieldLink RX6 35 "Ghostracer" "book" "LGhostracer$Book;", .fieldLink RX6 148 "Ghostracer$Book" "laps" "[LGhostracer$Lap;", .methodLink RX6 225 yX0_has, .instanceMethod yX0_has, .selects RX0 yX0_has yX0_has, .initialized RX0, .code yX0_has cX0_has 2 (some .boolean), .fieldLink RX0 18 "Ghostracer$Book" "count" "I"] ++ wsX20 ++ wsX60 ++ wsX00 ++ (vx_atS RX6 293 "java/lang/IndexOutOfBoundsException" ["java/lang/RuntimeException", "java/lang/Exception"]).filter goodWord)
def wsX6_parts : List Cond := .code yX6_parts cX6_parts 2 (some .int) :: ([.fieldLink RX6 244 "Ghostracer$Lap" "parts" "I", .methodLink RX6 194 yX6_lapNumbered, .instanceMethod yX6_lapNumbered, .selects RX6 yX6_lapNumbered yX6_lapNumbered, .initialized RX6, .code yX6_lapNumbered cX6_lapNumbered 2 (some (.object "Ghostracer$Lap")), .classLink RX6 289 "java/lang/IndexOutOfBoundsException", .initialized "java/lang/IndexOutOfBoundsException", .fieldLink RX6 35 "Ghostracer" "book" "LGhostracer$Book;", .fieldLink RX6 148 "Ghostracer$Book" "laps" "[LGhostracer$Lap;", .methodLink RX6 225 yX0_has, .instanceMethod yX0_has, .selects RX0 yX0_has yX0_has, .initialized RX0, .code yX0_has cX0_has 2 (some .boolean), .fieldLink RX0 18 "Ghostracer$Book" "count" "I"] ++ wsX20 ++ wsX60 ++ wsX00 ++ (vx_atS RX6 293 "java/lang/IndexOutOfBoundsException" ["java/lang/RuntimeException", "java/lang/Exception"]).filter goodWord)
def wsX6_stored : List Cond := .code yX6_stored cX6_stored 3 (some .int) :: ([.fieldLink RX6 35 "Ghostracer" "book" "LGhostracer$Book;", .fieldLink RX6 143 "Ghostracer$Book" "count" "I", .fieldLink RX6 148 "Ghostracer$Book" "laps" "[LGhostracer$Lap;", .fieldLink RX6 244 "Ghostracer$Lap" "parts" "I"] ++ wsX60 ++ wsX00 ++ wsX20)
def wsX6_resting_r1 : List Cond := [Cond.fieldLink RX6 35 "Ghostracer" "book" "LGhostracer$Book;", Cond.methodLink RX6 194 yX6_lapNumbered, Cond.instanceMethod yX6_lapNumbered, Cond.selects RX6 yX6_lapNumbered yX6_lapNumbered, Cond.initialized RX6, Cond.code yX6_lapNumbered cX6_lapNumbered 2 (some (.object "Ghostracer$Lap")), Cond.classLink RX6 289 "java/lang/IndexOutOfBoundsException", Cond.initialized "java/lang/IndexOutOfBoundsException", Cond.fieldLink RX6 148 "Ghostracer$Book" "laps" "[LGhostracer$Lap;", Cond.methodLink RX6 225 yX0_has, Cond.instanceMethod yX0_has, Cond.selects RX0 yX0_has yX0_has, Cond.initialized RX0, Cond.code yX0_has cX0_has 2 (some .boolean), Cond.fieldLink RX0 18 "Ghostracer$Book" "count" "I", Cond.methodLink RX6 247 yX0_countResting, Cond.instanceMethod yX0_countResting, Cond.selects RX0 yX0_countResting yX0_countResting, Cond.code yX0_countResting cX0_countResting 4 (some .int), Cond.methodLink RX0 60 yX0_restsOn, Cond.instanceMethod yX0_restsOn, Cond.selects RX0 yX0_restsOn yX0_restsOn, Cond.code yX0_restsOn cX0_restsOn 5 (some .boolean), Cond.fieldLink RX0 11 "Ghostracer$Book" "laps" "[LGhostracer$Lap;"]
def wsX6_resting_r2 : List Cond := [Cond.fieldLink RX0 47 "Ghostracer$Lap" "base" "I", Cond.methodLink RX0 22 yX0_has]
def wsX6_resting : List Cond := .code yX6_resting cX6_resting 2 (some .int) :: ((wsX6_resting_r1 ++ wsX6_resting_r2) ++ wsX60 ++ wsX00 ++ wsX20 ++ (vx_atS RX6 293 "java/lang/IndexOutOfBoundsException" ["java/lang/RuntimeException", "java/lang/Exception"]).filter goodWord)
def wsX6_strike_r1 : List Cond := [Cond.classLink RX6 76 "java/lang/UnsupportedOperationException", Cond.initialized "java/lang/UnsupportedOperationException", Cond.fieldLink RX6 250 "Ghostracer$Lap" "stands" "Z", Cond.fieldLink RX6 35 "Ghostracer" "book" "LGhostracer$Book;", Cond.fieldLink RX6 236 "Ghostracer$Lap" "base" "I", Cond.methodLink RX6 194 yX6_lapNumbered, Cond.instanceMethod yX6_lapNumbered, Cond.selects RX6 yX6_lapNumbered yX6_lapNumbered, Cond.initialized RX6, Cond.code yX6_lapNumbered cX6_lapNumbered 2 (some (.object "Ghostracer$Lap")), Cond.classLink RX6 289 "java/lang/IndexOutOfBoundsException", Cond.initialized "java/lang/IndexOutOfBoundsException", Cond.fieldLink RX6 148 "Ghostracer$Book" "laps" "[LGhostracer$Lap;", Cond.methodLink RX6 225 yX0_has, Cond.instanceMethod yX0_has, Cond.selects RX0 yX0_has yX0_has, Cond.initialized RX0, Cond.code yX0_has cX0_has 2 (some .boolean), Cond.fieldLink RX0 18 "Ghostracer$Book" "count" "I", Cond.methodLink RX6 255 yX0_moveFrom, Cond.instanceMethod yX0_moveFrom, Cond.selects RX0 yX0_moveFrom yX0_moveFrom, Cond.code yX0_moveFrom cX0_moveFrom 5 (some .int), Cond.fieldLink RX0 11 "Ghostracer$Book" "laps" "[LGhostracer$Lap;"]
def wsX6_strike_r2 : List Cond := [Cond.fieldLink RX0 47 "Ghostracer$Lap" "base" "I", Cond.methodLink RX0 39 yX0_store, Cond.instanceMethod yX0_store, Cond.selects RX0 yX0_store yX0_store, Cond.code yX0_store cX0_store 3 none, Cond.fieldLink RX0 54 "Ghostracer$Lap" "ticks" "I", Cond.fieldLink RX0 57 "Ghostracer$Lap" "parts" "I", Cond.methodLink RX0 22 yX0_has, Cond.methodLink RX0 50 yX2_inputsUnlike, Cond.instanceMethod yX2_inputsUnlike, Cond.selects RX2 yX2_inputsUnlike yX2_inputsUnlike, Cond.initialized RX2, Cond.code yX2_inputsUnlike cX2_inputsUnlike 4 (some .int), Cond.fieldLink RX2 21 "Ghostracer$Lap" "ticks" "I", Cond.fieldLink RX2 9 "Ghostracer$Lap" "inputs" "[C", Cond.methodLink RX0 43 yX0_settleDepth, Cond.instanceMethod yX0_settleDepth, Cond.selects RX0 yX0_settleDepth yX0_settleDepth, Cond.code yX0_settleDepth cX0_settleDepth 2 none, Cond.fieldLink RX0 36 "Ghostracer$Lap" "depth" "I"]
def wsX6_strike : List Cond := .code yX6_strike cX6_strike 3 (some .int) :: ((wsX6_strike_r1 ++ wsX6_strike_r2) ++ wsX20 ++ wsX60 ++ wsX00 ++ (vx_atS RX6 80 "java/lang/UnsupportedOperationException" ["java/lang/RuntimeException", "java/lang/Exception"]).filter goodWord ++ (vx_atS RX6 293 "java/lang/IndexOutOfBoundsException" ["java/lang/RuntimeException", "java/lang/Exception"]).filter goodWord)
def wsX6_giveBack : List Cond := .code yX6_giveBack cX6_giveBack 3 (some .int) :: ([.classLink RX6 76 "java/lang/UnsupportedOperationException", .initialized "java/lang/UnsupportedOperationException", .fieldLink RX6 250 "Ghostracer$Lap" "stands" "Z", .fieldLink RX6 35 "Ghostracer" "book" "LGhostracer$Book;", .methodLink RX6 194 yX6_lapNumbered, .instanceMethod yX6_lapNumbered, .selects RX6 yX6_lapNumbered yX6_lapNumbered, .initialized RX6, .code yX6_lapNumbered cX6_lapNumbered 2 (some (.object "Ghostracer$Lap")), .classLink RX6 289 "java/lang/IndexOutOfBoundsException", .initialized "java/lang/IndexOutOfBoundsException", .fieldLink RX6 148 "Ghostracer$Book" "laps" "[LGhostracer$Lap;", .methodLink RX6 225 yX0_has, .instanceMethod yX0_has, .selects RX0 yX0_has yX0_has, .initialized RX0, .code yX0_has cX0_has 2 (some .boolean), .fieldLink RX0 18 "Ghostracer$Book" "count" "I", .methodLink RX6 261 yX0_countStanding, .instanceMethod yX0_countStanding, .selects RX0 yX0_countStanding yX0_countStanding, .code yX0_countStanding cX0_countStanding 3 (some .int), .fieldLink RX0 11 "Ghostracer$Book" "laps" "[LGhostracer$Lap;", .fieldLink RX0 29 "Ghostracer$Lap" "stands" "Z"] ++ wsX20 ++ wsX60 ++ wsX00 ++ (vx_atS RX6 80 "java/lang/UnsupportedOperationException" ["java/lang/RuntimeException", "java/lang/Exception"]).filter goodWord ++ (vx_atS RX6 293 "java/lang/IndexOutOfBoundsException" ["java/lang/RuntimeException", "java/lang/Exception"]).filter goodWord)
def wsX6_stands : List Cond := .code yX6_stands cX6_stands 2 (some .boolean) :: ([.fieldLink RX6 250 "Ghostracer$Lap" "stands" "Z", .methodLink RX6 194 yX6_lapNumbered, .instanceMethod yX6_lapNumbered, .selects RX6 yX6_lapNumbered yX6_lapNumbered, .initialized RX6, .code yX6_lapNumbered cX6_lapNumbered 2 (some (.object "Ghostracer$Lap")), .classLink RX6 289 "java/lang/IndexOutOfBoundsException", .initialized "java/lang/IndexOutOfBoundsException", .fieldLink RX6 35 "Ghostracer" "book" "LGhostracer$Book;", .fieldLink RX6 148 "Ghostracer$Book" "laps" "[LGhostracer$Lap;", .methodLink RX6 225 yX0_has, .instanceMethod yX0_has, .selects RX0 yX0_has yX0_has, .initialized RX0, .code yX0_has cX0_has 2 (some .boolean), .fieldLink RX0 18 "Ghostracer$Book" "count" "I"] ++ wsX20 ++ wsX60 ++ wsX00 ++ (vx_atS RX6 293 "java/lang/IndexOutOfBoundsException" ["java/lang/RuntimeException", "java/lang/Exception"]).filter goodWord)
def wsX6_penalty : List Cond := .code yX6_penalty cX6_penalty 5 (some .int) :: ([.classLink RX6 67 "java/lang/IllegalArgumentException", .initialized "java/lang/IllegalArgumentException", .fieldLink RX6 266 "Ghostracer$Lap" "penalty" "I", .methodLink RX6 194 yX6_lapNumbered, .instanceMethod yX6_lapNumbered, .selects RX6 yX6_lapNumbered yX6_lapNumbered, .initialized RX6, .code yX6_lapNumbered cX6_lapNumbered 2 (some (.object "Ghostracer$Lap")), .classLink RX6 289 "java/lang/IndexOutOfBoundsException", .initialized "java/lang/IndexOutOfBoundsException", .fieldLink RX6 35 "Ghostracer" "book" "LGhostracer$Book;", .fieldLink RX6 148 "Ghostracer$Book" "laps" "[LGhostracer$Lap;", .methodLink RX6 225 yX0_has, .instanceMethod yX0_has, .selects RX0 yX0_has yX0_has, .initialized RX0, .code yX0_has cX0_has 2 (some .boolean), .fieldLink RX0 18 "Ghostracer$Book" "count" "I", .methodLink RX6 63 yX6_isWithin, .static yX6_isWithin, .code yX6_isWithin cX6_isWithin 3 (some .boolean)] ++ wsX20 ++ wsX60 ++ wsX00 ++ (vx_atS RX6 71 "java/lang/IllegalArgumentException" ["java/lang/RuntimeException", "java/lang/Exception"]).filter goodWord ++ (vx_atS RX6 293 "java/lang/IndexOutOfBoundsException" ["java/lang/RuntimeException", "java/lang/Exception"]).filter goodWord)
def wsX6_round : List Cond := .code yX6_round cX6_round 2 (some .int) :: ([.classLink RX6 52 "java/lang/IllegalStateException", .initialized "java/lang/IllegalStateException", .fieldLink RX6 42 "Ghostracer" "season" "LGhostracer$Season;", .fieldLink RX6 269 "Ghostracer$Season" "rounds" "I", .fieldLink RX6 277 "Ghostracer$Season" "open" "I", .methodLink RX6 59 yX6_trackNumbered, .instanceMethod yX6_trackNumbered, .selects RX6 yX6_trackNumbered yX6_trackNumbered, .initialized RX6, .code yX6_trackNumbered cX6_trackNumbered 2 (some (.object "Ghostracer$Track")), .classLink RX6 289 "java/lang/IndexOutOfBoundsException", .initialized "java/lang/IndexOutOfBoundsException", .fieldLink RX6 48 "Ghostracer" "trackCount" "I", .fieldLink RX6 11 "Ghostracer" "tracks" "[LGhostracer$Track;", .methodLink RX6 274 yX4_openOn, .instanceMethod yX4_openOn, .selects RX4 yX4_openOn yX4_openOn, .initialized RX4, .code yX4_openOn cX4_openOn 2 none, .fieldLink RX4 31 "Ghostracer$Season" "rounds" "I", .fieldLink RX4 9 "Ghostracer$Season" "tracks" "[I", .fieldLink RX4 15 "Ghostracer$Season" "open" "I"] ++ wsX60 ++ wsX40 ++ (vx_atS RX6 56 "java/lang/IllegalStateException" ["java/lang/RuntimeException", "java/lang/Exception"]).filter goodWord ++ (vx_atS RX6 293 "java/lang/IndexOutOfBoundsException" ["java/lang/RuntimeException", "java/lang/Exception"]).filter goodWord)
def wsX6_shut : List Cond := .code yX6_shut cX6_shut 2 (some .int) :: ([.classLink RX6 52 "java/lang/IllegalStateException", .initialized "java/lang/IllegalStateException", .fieldLink RX6 42 "Ghostracer" "season" "LGhostracer$Season;", .fieldLink RX6 277 "Ghostracer$Season" "open" "I"] ++ wsX60 ++ wsX40 ++ (vx_atS RX6 56 "java/lang/IllegalStateException" ["java/lang/RuntimeException", "java/lang/Exception"]).filter goodWord)
def wsX6_findLap_r1 : List Cond := [Cond.classLink RX6 289 "java/lang/IndexOutOfBoundsException", Cond.initialized "java/lang/IndexOutOfBoundsException", Cond.classLink RX6 109 "java/util/NoSuchElementException", Cond.initialized "java/util/NoSuchElementException", Cond.fieldLink RX6 42 "Ghostracer" "season" "LGhostracer$Season;", Cond.fieldLink RX6 269 "Ghostracer$Season" "rounds" "I", Cond.fieldLink RX6 35 "Ghostracer" "book" "LGhostracer$Book;", Cond.fieldLink RX6 298 "Ghostracer$Season" "lapOf" "[I", Cond.methodLink RX6 125 yX6_requireDriver, Cond.instanceMethod yX6_requireDriver, Cond.selects RX6 yX6_requireDriver yX6_requireDriver, Cond.initialized RX6, Cond.code yX6_requireDriver cX6_requireDriver 2 none, Cond.methodLink RX6 294 yX4_findLaps, Cond.instanceMethod yX4_findLaps, Cond.selects RX4 yX4_findLaps yX4_findLaps, Cond.initialized RX4, Cond.code yX4_findLaps cX4_findLaps 5 none, Cond.fieldLink RX4 19 "Ghostracer$Season" "lapOf" "[I", Cond.fieldLink RX4 34 "Ghostracer$Book" "count" "I", Cond.fieldLink RX4 39 "Ghostracer$Book" "laps" "[LGhostracer$Lap;", Cond.fieldLink RX4 43 "Ghostracer$Lap" "stands" "Z", Cond.fieldLink RX4 49 "Ghostracer$Lap" "round" "I", Cond.fieldLink RX4 52 "Ghostracer$Lap" "driver" "I"]
def wsX6_findLap_r2 : List Cond := [Cond.methodLink RX4 55 yX0_isAhead, Cond.instanceMethod yX0_isAhead, Cond.selects RX0 yX0_isAhead yX0_isAhead, Cond.initialized RX0, Cond.code yX0_isAhead cX0_isAhead 5 (some .boolean), Cond.fieldLink RX0 11 "Ghostracer$Book" "laps" "[LGhostracer$Lap;", Cond.methodLink RX0 22 yX0_has, Cond.instanceMethod yX0_has, Cond.selects RX0 yX0_has yX0_has, Cond.code yX0_has cX0_has 2 (some .boolean), Cond.fieldLink RX0 18 "Ghostracer$Book" "count" "I", Cond.methodLink RX0 67 yX2_counted, Cond.instanceMethod yX2_counted, Cond.selects RX2 yX2_counted yX2_counted, Cond.initialized RX2, Cond.code yX2_counted cX2_counted 1 (some .int), Cond.fieldLink RX2 25 "Ghostracer$Lap" "time" "I", Cond.fieldLink RX2 30 "Ghostracer$Lap" "penalty" "I"]
def wsX6_findLap : List Cond := .code yX6_findLap cX6_findLap 3 (some .int) :: ((wsX6_findLap_r1 ++ wsX6_findLap_r2) ++ wsX60 ++ wsX40 ++ wsX00 ++ wsX20 ++ (vx_atS RX6 293 "java/lang/IndexOutOfBoundsException" ["java/lang/RuntimeException", "java/lang/Exception"]).filter goodWord ++ (vx_atS RX6 113 "java/util/NoSuchElementException" ["java/lang/RuntimeException", "java/lang/Exception"]).filter goodWord)
def wsX6_lapIn_r1 : List Cond := [Cond.methodLink RX6 282 yX6_findLap, Cond.instanceMethod yX6_findLap, Cond.selects RX6 yX6_findLap yX6_findLap, Cond.initialized RX6, Cond.code yX6_findLap cX6_findLap 3 (some .int), Cond.classLink RX6 289 "java/lang/IndexOutOfBoundsException", Cond.initialized "java/lang/IndexOutOfBoundsException", Cond.classLink RX6 109 "java/util/NoSuchElementException", Cond.initialized "java/util/NoSuchElementException", Cond.fieldLink RX6 42 "Ghostracer" "season" "LGhostracer$Season;", Cond.fieldLink RX6 269 "Ghostracer$Season" "rounds" "I", Cond.fieldLink RX6 35 "Ghostracer" "book" "LGhostracer$Book;", Cond.fieldLink RX6 298 "Ghostracer$Season" "lapOf" "[I", Cond.methodLink RX6 125 yX6_requireDriver, Cond.instanceMethod yX6_requireDriver, Cond.selects RX6 yX6_requireDriver yX6_requireDriver, Cond.code yX6_requireDriver cX6_requireDriver 2 none, Cond.methodLink RX6 294 yX4_findLaps, Cond.instanceMethod yX4_findLaps, Cond.selects RX4 yX4_findLaps yX4_findLaps, Cond.initialized RX4, Cond.code yX4_findLaps cX4_findLaps 5 none, Cond.fieldLink RX4 19 "Ghostracer$Season" "lapOf" "[I", Cond.fieldLink RX4 34 "Ghostracer$Book" "count" "I"]
def wsX6_lapIn_r2 : List Cond := [Cond.fieldLink RX4 39 "Ghostracer$Book" "laps" "[LGhostracer$Lap;", Cond.fieldLink RX4 43 "Ghostracer$Lap" "stands" "Z", Cond.fieldLink RX4 49 "Ghostracer$Lap" "round" "I", Cond.fieldLink RX4 52 "Ghostracer$Lap" "driver" "I", Cond.methodLink RX4 55 yX0_isAhead, Cond.instanceMethod yX0_isAhead, Cond.selects RX0 yX0_isAhead yX0_isAhead, Cond.initialized RX0, Cond.code yX0_isAhead cX0_isAhead 5 (some .boolean), Cond.fieldLink RX0 11 "Ghostracer$Book" "laps" "[LGhostracer$Lap;", Cond.methodLink RX0 22 yX0_has, Cond.instanceMethod yX0_has, Cond.selects RX0 yX0_has yX0_has, Cond.code yX0_has cX0_has 2 (some .boolean), Cond.fieldLink RX0 18 "Ghostracer$Book" "count" "I", Cond.methodLink RX0 67 yX2_counted, Cond.instanceMethod yX2_counted, Cond.selects RX2 yX2_counted yX2_counted, Cond.initialized RX2, Cond.code yX2_counted cX2_counted 1 (some .int), Cond.fieldLink RX2 25 "Ghostracer$Lap" "time" "I", Cond.fieldLink RX2 30 "Ghostracer$Lap" "penalty" "I"]
def wsX6_lapIn : List Cond := .code yX6_lapIn cX6_lapIn 3 (some .int) :: ((wsX6_lapIn_r1 ++ wsX6_lapIn_r2) ++ wsX60 ++ wsX40 ++ wsX00 ++ wsX20 ++ (vx_atS RX6 293 "java/lang/IndexOutOfBoundsException" ["java/lang/RuntimeException", "java/lang/Exception"]).filter goodWord ++ (vx_atS RX6 113 "java/util/NoSuchElementException" ["java/lang/RuntimeException", "java/lang/Exception"]).filter goodWord)
def wsX6_placeIn_r1 : List Cond := [Cond.fieldLink RX6 42 "Ghostracer" "season" "LGhostracer$Season;", Cond.fieldLink RX6 35 "Ghostracer" "book" "LGhostracer$Book;", Cond.methodLink RX6 282 yX6_findLap, Cond.instanceMethod yX6_findLap, Cond.selects RX6 yX6_findLap yX6_findLap, Cond.initialized RX6, Cond.code yX6_findLap cX6_findLap 3 (some .int), Cond.classLink RX6 289 "java/lang/IndexOutOfBoundsException", Cond.initialized "java/lang/IndexOutOfBoundsException", Cond.classLink RX6 109 "java/util/NoSuchElementException", Cond.initialized "java/util/NoSuchElementException", Cond.fieldLink RX6 269 "Ghostracer$Season" "rounds" "I", Cond.fieldLink RX6 298 "Ghostracer$Season" "lapOf" "[I", Cond.methodLink RX6 125 yX6_requireDriver, Cond.instanceMethod yX6_requireDriver, Cond.selects RX6 yX6_requireDriver yX6_requireDriver, Cond.code yX6_requireDriver cX6_requireDriver 2 none, Cond.methodLink RX6 294 yX4_findLaps, Cond.instanceMethod yX4_findLaps, Cond.selects RX4 yX4_findLaps yX4_findLaps, Cond.initialized RX4, Cond.code yX4_findLaps cX4_findLaps 5 none, Cond.fieldLink RX4 19 "Ghostracer$Season" "lapOf" "[I", Cond.fieldLink RX4 34 "Ghostracer$Book" "count" "I"]
def wsX6_placeIn_r2 : List Cond := [Cond.fieldLink RX4 39 "Ghostracer$Book" "laps" "[LGhostracer$Lap;", Cond.fieldLink RX4 43 "Ghostracer$Lap" "stands" "Z", Cond.fieldLink RX4 49 "Ghostracer$Lap" "round" "I", Cond.fieldLink RX4 52 "Ghostracer$Lap" "driver" "I", Cond.methodLink RX4 55 yX0_isAhead, Cond.instanceMethod yX0_isAhead, Cond.selects RX0 yX0_isAhead yX0_isAhead, Cond.initialized RX0, Cond.code yX0_isAhead cX0_isAhead 5 (some .boolean), Cond.fieldLink RX0 11 "Ghostracer$Book" "laps" "[LGhostracer$Lap;", Cond.methodLink RX0 22 yX0_has, Cond.instanceMethod yX0_has, Cond.selects RX0 yX0_has yX0_has, Cond.code yX0_has cX0_has 2 (some .boolean), Cond.fieldLink RX0 18 "Ghostracer$Book" "count" "I", Cond.methodLink RX0 67 yX2_counted, Cond.instanceMethod yX2_counted, Cond.selects RX2 yX2_counted yX2_counted, Cond.initialized RX2, Cond.code yX2_counted cX2_counted 1 (some .int), Cond.fieldLink RX2 25 "Ghostracer$Lap" "time" "I", Cond.fieldLink RX2 30 "Ghostracer$Lap" "penalty" "I", Cond.methodLink RX6 285 yX4_lapsAhead, Cond.instanceMethod yX4_lapsAhead]
def wsX6_placeIn_r3 : List Cond := [Cond.selects RX4 yX4_lapsAhead yX4_lapsAhead, Cond.code yX4_lapsAhead cX4_lapsAhead 5 (some .int)]
def wsX6_placeIn : List Cond := .code yX6_placeIn cX6_placeIn 3 (some .int) :: ((wsX6_placeIn_r1 ++ (wsX6_placeIn_r2 ++ wsX6_placeIn_r3)) ++ wsX60 ++ wsX40 ++ wsX00 ++ wsX20 ++ (vx_atS RX6 293 "java/lang/IndexOutOfBoundsException" ["java/lang/RuntimeException", "java/lang/Exception"]).filter goodWord ++ (vx_atS RX6 113 "java/util/NoSuchElementException" ["java/lang/RuntimeException", "java/lang/Exception"]).filter goodWord)
def wsX6_drop : List Cond := .code yX6_drop cX6_drop 3 (some .int) :: ([.classLink RX6 67 "java/lang/IllegalArgumentException", .initialized "java/lang/IllegalArgumentException", .fieldLink RX6 42 "Ghostracer" "season" "LGhostracer$Season;", .fieldLink RX6 306 "Ghostracer$Season" "dropped" "I", .methodLink RX6 63 yX6_isWithin, .static yX6_isWithin, .initialized RX6, .code yX6_isWithin cX6_isWithin 3 (some .boolean)] ++ wsX60 ++ wsX40 ++ (vx_atS RX6 71 "java/lang/IllegalArgumentException" ["java/lang/RuntimeException", "java/lang/Exception"]).filter goodWord)
def wsX6_points_r1 : List Cond := [Cond.fieldLink RX6 42 "Ghostracer" "season" "LGhostracer$Season;", Cond.fieldLink RX6 35 "Ghostracer" "book" "LGhostracer$Book;", Cond.fieldLink RX6 313 "Ghostracer$Season" "points" "[I", Cond.methodLink RX6 125 yX6_requireDriver, Cond.instanceMethod yX6_requireDriver, Cond.selects RX6 yX6_requireDriver yX6_requireDriver, Cond.initialized RX6, Cond.code yX6_requireDriver cX6_requireDriver 2 none, Cond.classLink RX6 289 "java/lang/IndexOutOfBoundsException", Cond.initialized "java/lang/IndexOutOfBoundsException", Cond.methodLink RX6 309 yX4_reckon, Cond.instanceMethod yX4_reckon, Cond.selects RX4 yX4_reckon yX4_reckon, Cond.initialized RX4, Cond.code yX4_reckon cX4_reckon 4 none, Cond.fieldLink RX4 25 "Ghostracer$Season" "points" "[I", Cond.fieldLink RX4 28 "Ghostracer$Season" "won" "[I", Cond.fieldLink RX4 31 "Ghostracer$Season" "rounds" "I", Cond.fieldLink RX4 67 "Ghostracer$Season" "dropped" "I", Cond.methodLink RX4 59 yX4_findLaps, Cond.instanceMethod yX4_findLaps, Cond.selects RX4 yX4_findLaps yX4_findLaps, Cond.code yX4_findLaps cX4_findLaps 5 none, Cond.fieldLink RX4 19 "Ghostracer$Season" "lapOf" "[I"]
def wsX6_points_r2 : List Cond := [Cond.fieldLink RX4 34 "Ghostracer$Book" "count" "I", Cond.fieldLink RX4 39 "Ghostracer$Book" "laps" "[LGhostracer$Lap;", Cond.fieldLink RX4 43 "Ghostracer$Lap" "stands" "Z", Cond.fieldLink RX4 49 "Ghostracer$Lap" "round" "I", Cond.fieldLink RX4 52 "Ghostracer$Lap" "driver" "I", Cond.methodLink RX4 55 yX0_isAhead, Cond.instanceMethod yX0_isAhead, Cond.selects RX0 yX0_isAhead yX0_isAhead, Cond.initialized RX0, Cond.code yX0_isAhead cX0_isAhead 5 (some .boolean), Cond.fieldLink RX0 11 "Ghostracer$Book" "laps" "[LGhostracer$Lap;", Cond.methodLink RX0 22 yX0_has, Cond.instanceMethod yX0_has, Cond.selects RX0 yX0_has yX0_has, Cond.code yX0_has cX0_has 2 (some .boolean), Cond.fieldLink RX0 18 "Ghostracer$Book" "count" "I", Cond.methodLink RX0 67 yX2_counted, Cond.instanceMethod yX2_counted, Cond.selects RX2 yX2_counted yX2_counted, Cond.initialized RX2, Cond.code yX2_counted cX2_counted 1 (some .int), Cond.fieldLink RX2 25 "Ghostracer$Lap" "time" "I", Cond.fieldLink RX2 30 "Ghostracer$Lap" "penalty" "I", Cond.methodLink RX4 63 yX4_score]
def wsX6_points_r3 : List Cond := [Cond.instanceMethod yX4_score, Cond.selects RX4 yX4_score yX4_score, Cond.code yX4_score cX4_score 6 none, Cond.fieldLink RX4 22 "Ghostracer$Season" "scores" "[I", Cond.methodLink RX4 74 yX4_lapsAhead, Cond.instanceMethod yX4_lapsAhead, Cond.selects RX4 yX4_lapsAhead yX4_lapsAhead, Cond.code yX4_lapsAhead cX4_lapsAhead 5 (some .int), Cond.methodLink RX4 70 yX4_takeLeast, Cond.instanceMethod yX4_takeLeast, Cond.selects RX4 yX4_takeLeast yX4_takeLeast, Cond.code yX4_takeLeast cX4_takeLeast 5 (some .int), Cond.constant RX4 83 (2147483647)]
def wsX6_points : List Cond := .code yX6_points cX6_points 2 (some .int) :: ((wsX6_points_r1 ++ (wsX6_points_r2 ++ wsX6_points_r3)) ++ wsX60 ++ wsX40 ++ wsX00 ++ wsX20 ++ (vx_atS RX6 293 "java/lang/IndexOutOfBoundsException" ["java/lang/RuntimeException", "java/lang/Exception"]).filter goodWord)
def wsX6_wins_r1 : List Cond := [Cond.fieldLink RX6 42 "Ghostracer" "season" "LGhostracer$Season;", Cond.fieldLink RX6 35 "Ghostracer" "book" "LGhostracer$Book;", Cond.fieldLink RX6 316 "Ghostracer$Season" "won" "[I", Cond.methodLink RX6 125 yX6_requireDriver, Cond.instanceMethod yX6_requireDriver, Cond.selects RX6 yX6_requireDriver yX6_requireDriver, Cond.initialized RX6, Cond.code yX6_requireDriver cX6_requireDriver 2 none, Cond.classLink RX6 289 "java/lang/IndexOutOfBoundsException", Cond.initialized "java/lang/IndexOutOfBoundsException", Cond.methodLink RX6 309 yX4_reckon, Cond.instanceMethod yX4_reckon, Cond.selects RX4 yX4_reckon yX4_reckon, Cond.initialized RX4, Cond.code yX4_reckon cX4_reckon 4 none, Cond.fieldLink RX4 25 "Ghostracer$Season" "points" "[I", Cond.fieldLink RX4 28 "Ghostracer$Season" "won" "[I", Cond.fieldLink RX4 31 "Ghostracer$Season" "rounds" "I", Cond.fieldLink RX4 67 "Ghostracer$Season" "dropped" "I", Cond.methodLink RX4 59 yX4_findLaps, Cond.instanceMethod yX4_findLaps, Cond.selects RX4 yX4_findLaps yX4_findLaps, Cond.code yX4_findLaps cX4_findLaps 5 none, Cond.fieldLink RX4 19 "Ghostracer$Season" "lapOf" "[I"]
def wsX6_wins_r2 : List Cond := [Cond.fieldLink RX4 34 "Ghostracer$Book" "count" "I", Cond.fieldLink RX4 39 "Ghostracer$Book" "laps" "[LGhostracer$Lap;", Cond.fieldLink RX4 43 "Ghostracer$Lap" "stands" "Z", Cond.fieldLink RX4 49 "Ghostracer$Lap" "round" "I", Cond.fieldLink RX4 52 "Ghostracer$Lap" "driver" "I", Cond.methodLink RX4 55 yX0_isAhead, Cond.instanceMethod yX0_isAhead, Cond.selects RX0 yX0_isAhead yX0_isAhead, Cond.initialized RX0, Cond.code yX0_isAhead cX0_isAhead 5 (some .boolean), Cond.fieldLink RX0 11 "Ghostracer$Book" "laps" "[LGhostracer$Lap;", Cond.methodLink RX0 22 yX0_has, Cond.instanceMethod yX0_has, Cond.selects RX0 yX0_has yX0_has, Cond.code yX0_has cX0_has 2 (some .boolean), Cond.fieldLink RX0 18 "Ghostracer$Book" "count" "I", Cond.methodLink RX0 67 yX2_counted, Cond.instanceMethod yX2_counted, Cond.selects RX2 yX2_counted yX2_counted, Cond.initialized RX2, Cond.code yX2_counted cX2_counted 1 (some .int), Cond.fieldLink RX2 25 "Ghostracer$Lap" "time" "I", Cond.fieldLink RX2 30 "Ghostracer$Lap" "penalty" "I", Cond.methodLink RX4 63 yX4_score]
def wsX6_wins_r3 : List Cond := [Cond.instanceMethod yX4_score, Cond.selects RX4 yX4_score yX4_score, Cond.code yX4_score cX4_score 6 none, Cond.fieldLink RX4 22 "Ghostracer$Season" "scores" "[I", Cond.methodLink RX4 74 yX4_lapsAhead, Cond.instanceMethod yX4_lapsAhead, Cond.selects RX4 yX4_lapsAhead yX4_lapsAhead, Cond.code yX4_lapsAhead cX4_lapsAhead 5 (some .int), Cond.methodLink RX4 70 yX4_takeLeast, Cond.instanceMethod yX4_takeLeast, Cond.selects RX4 yX4_takeLeast yX4_takeLeast, Cond.code yX4_takeLeast cX4_takeLeast 5 (some .int), Cond.constant RX4 83 (2147483647)]
def wsX6_wins : List Cond := .code yX6_wins cX6_wins 2 (some .int) :: ((wsX6_wins_r1 ++ (wsX6_wins_r2 ++ wsX6_wins_r3)) ++ wsX60 ++ wsX40 ++ wsX00 ++ wsX20 ++ (vx_atS RX6 293 "java/lang/IndexOutOfBoundsException" ["java/lang/RuntimeException", "java/lang/Exception"]).filter goodWord)
def wsX6_standing_r1 : List Cond := [Cond.classLink RX6 289 "java/lang/IndexOutOfBoundsException", Cond.initialized "java/lang/IndexOutOfBoundsException", Cond.fieldLink RX6 42 "Ghostracer" "season" "LGhostracer$Season;", Cond.fieldLink RX6 35 "Ghostracer" "book" "LGhostracer$Book;", Cond.methodLink RX6 309 yX4_reckon, Cond.instanceMethod yX4_reckon, Cond.selects RX4 yX4_reckon yX4_reckon, Cond.initialized RX4, Cond.code yX4_reckon cX4_reckon 4 none, Cond.fieldLink RX4 25 "Ghostracer$Season" "points" "[I", Cond.fieldLink RX4 28 "Ghostracer$Season" "won" "[I", Cond.fieldLink RX4 31 "Ghostracer$Season" "rounds" "I", Cond.fieldLink RX4 67 "Ghostracer$Season" "dropped" "I", Cond.methodLink RX4 59 yX4_findLaps, Cond.instanceMethod yX4_findLaps, Cond.selects RX4 yX4_findLaps yX4_findLaps, Cond.code yX4_findLaps cX4_findLaps 5 none, Cond.fieldLink RX4 19 "Ghostracer$Season" "lapOf" "[I", Cond.fieldLink RX4 34 "Ghostracer$Book" "count" "I", Cond.fieldLink RX4 39 "Ghostracer$Book" "laps" "[LGhostracer$Lap;", Cond.fieldLink RX4 43 "Ghostracer$Lap" "stands" "Z", Cond.fieldLink RX4 49 "Ghostracer$Lap" "round" "I", Cond.fieldLink RX4 52 "Ghostracer$Lap" "driver" "I", Cond.methodLink RX4 55 yX0_isAhead]
def wsX6_standing_r2 : List Cond := [Cond.instanceMethod yX0_isAhead, Cond.selects RX0 yX0_isAhead yX0_isAhead, Cond.initialized RX0, Cond.code yX0_isAhead cX0_isAhead 5 (some .boolean), Cond.fieldLink RX0 11 "Ghostracer$Book" "laps" "[LGhostracer$Lap;", Cond.methodLink RX0 22 yX0_has, Cond.instanceMethod yX0_has, Cond.selects RX0 yX0_has yX0_has, Cond.code yX0_has cX0_has 2 (some .boolean), Cond.fieldLink RX0 18 "Ghostracer$Book" "count" "I", Cond.methodLink RX0 67 yX2_counted, Cond.instanceMethod yX2_counted, Cond.selects RX2 yX2_counted yX2_counted, Cond.initialized RX2, Cond.code yX2_counted cX2_counted 1 (some .int), Cond.fieldLink RX2 25 "Ghostracer$Lap" "time" "I", Cond.fieldLink RX2 30 "Ghostracer$Lap" "penalty" "I", Cond.methodLink RX4 63 yX4_score, Cond.instanceMethod yX4_score, Cond.selects RX4 yX4_score yX4_score, Cond.code yX4_score cX4_score 6 none, Cond.fieldLink RX4 22 "Ghostracer$Season" "scores" "[I", Cond.methodLink RX4 74 yX4_lapsAhead, Cond.instanceMethod yX4_lapsAhead]
def wsX6_standing_r3 : List Cond := [Cond.selects RX4 yX4_lapsAhead yX4_lapsAhead, Cond.code yX4_lapsAhead cX4_lapsAhead 5 (some .int), Cond.methodLink RX4 70 yX4_takeLeast, Cond.instanceMethod yX4_takeLeast, Cond.selects RX4 yX4_takeLeast yX4_takeLeast, Cond.code yX4_takeLeast cX4_takeLeast 5 (some .int), Cond.constant RX4 83 (2147483647), Cond.methodLink RX6 319 yX4_driverBehind, Cond.instanceMethod yX4_driverBehind, Cond.selects RX4 yX4_driverBehind yX4_driverBehind, Cond.code yX4_driverBehind cX4_driverBehind 6 (some .int), Cond.methodLink RX4 84 yX4_isAheadInSeason, Cond.instanceMethod yX4_isAheadInSeason, Cond.selects RX4 yX4_isAheadInSeason yX4_isAheadInSeason, Cond.code yX4_isAheadInSeason cX4_isAheadInSeason 3 (some .boolean)]
def wsX6_standing : List Cond := .code yX6_standing cX6_standing 2 (some .int) :: ((wsX6_standing_r1 ++ (wsX6_standing_r2 ++ wsX6_standing_r3)) ++ wsX60 ++ wsX40 ++ wsX00 ++ wsX20 ++ (vx_atS RX6 293 "java/lang/IndexOutOfBoundsException" ["java/lang/RuntimeException", "java/lang/Exception"]).filter goodWord)
def wsX6_checksum : List Cond := .code yX6_checksum cX6_checksum 5 (some .long) :: ([.constantLong RX6 322 (7), .fieldLink RX6 35 "Ghostracer" "book" "LGhostracer$Book;", .fieldLink RX6 143 "Ghostracer$Book" "count" "I", .fieldLink RX6 148 "Ghostracer$Book" "laps" "[LGhostracer$Lap;", .constantLong RX6 324 (31), .fieldLink RX6 202 "Ghostracer$Lap" "time" "I", .fieldLink RX6 266 "Ghostracer$Lap" "penalty" "I", .fieldLink RX6 244 "Ghostracer$Lap" "parts" "I", .fieldLink RX6 250 "Ghostracer$Lap" "stands" "Z"] ++ wsX60 ++ wsX00 ++ wsX20)
def wsX6_shareStored : List Cond := .code yX6_shareStored cX6_shareStored 3 (some .float) :: ([.classLink RX6 109 "java/util/NoSuchElementException", .initialized "java/util/NoSuchElementException", .fieldLink RX6 35 "Ghostracer" "book" "LGhostracer$Book;", .fieldLink RX6 143 "Ghostracer$Book" "count" "I", .fieldLink RX6 148 "Ghostracer$Book" "laps" "[LGhostracer$Lap;", .fieldLink RX6 203 "Ghostracer$Lap" "ticks" "I", .methodLink RX6 328 yX6_stored, .instanceMethod yX6_stored, .selects RX6 yX6_stored yX6_stored, .initialized RX6, .code yX6_stored cX6_stored 3 (some .int), .fieldLink RX6 244 "Ghostracer$Lap" "parts" "I"] ++ wsX60 ++ wsX00 ++ wsX20 ++ (vx_atS RX6 113 "java/util/NoSuchElementException" ["java/lang/RuntimeException", "java/lang/Exception"]).filter goodWord)
def wsX6_meanTime : List Cond := .code yX6_meanTime cX6_meanTime 5 (some .double) :: ([.classLink RX6 109 "java/util/NoSuchElementException", .initialized "java/util/NoSuchElementException", .fieldLink RX6 35 "Ghostracer" "book" "LGhostracer$Book;", .fieldLink RX6 143 "Ghostracer$Book" "count" "I", .fieldLink RX6 148 "Ghostracer$Book" "laps" "[LGhostracer$Lap;", .fieldLink RX6 250 "Ghostracer$Lap" "stands" "Z", .methodLink RX6 261 yX0_countStanding, .instanceMethod yX0_countStanding, .selects RX0 yX0_countStanding yX0_countStanding, .initialized RX0, .code yX0_countStanding cX0_countStanding 3 (some .int), .fieldLink RX0 18 "Ghostracer$Book" "count" "I", .fieldLink RX0 11 "Ghostracer$Book" "laps" "[LGhostracer$Lap;", .fieldLink RX0 29 "Ghostracer$Lap" "stands" "Z", .methodLink RX6 198 yX2_counted, .instanceMethod yX2_counted, .selects RX2 yX2_counted yX2_counted, .initialized RX2, .code yX2_counted cX2_counted 1 (some .int), .fieldLink RX2 25 "Ghostracer$Lap" "time" "I", .fieldLink RX2 30 "Ghostracer$Lap" "penalty" "I"] ++ wsX60 ++ wsX00 ++ wsX20 ++ (vx_atS RX6 113 "java/util/NoSuchElementException" ["java/lang/RuntimeException", "java/lang/Exception"]).filter goodWord)
def wsX6_isSound_r1 : List Cond := [Cond.fieldLink RX6 35 "Ghostracer" "book" "LGhostracer$Book;", Cond.fieldLink RX6 143 "Ghostracer$Book" "count" "I", Cond.fieldLink RX6 148 "Ghostracer$Book" "laps" "[LGhostracer$Lap;", Cond.fieldLink RX6 203 "Ghostracer$Lap" "ticks" "I", Cond.fieldLink RX6 28 "Ghostracer" "ride" "LGhostracer$Ride;", Cond.fieldLink RX6 189 "Ghostracer$Ride" "isOver" "Z", Cond.fieldLink RX6 180 "Ghostracer$Ride" "time" "I", Cond.fieldLink RX6 202 "Ghostracer$Lap" "time" "I", Cond.fieldLink RX6 236 "Ghostracer$Lap" "base" "I", Cond.fieldLink RX6 250 "Ghostracer$Lap" "stands" "Z", Cond.fieldLink RX6 241 "Ghostracer$Lap" "depth" "I", Cond.methodLink RX6 213 yX6_rideAgain, Cond.instanceMethod yX6_rideAgain, Cond.selects RX6 yX6_rideAgain yX6_rideAgain, Cond.initialized RX6, Cond.code yX6_rideAgain cX6_rideAgain 3 none, Cond.fieldLink RX6 208 "Ghostracer$Lap" "inputs" "[C", Cond.fieldLink RX6 157 "Ghostracer$Lap" "track" "I", Cond.fieldLink RX6 160 "Ghostracer$Lap" "car" "I", Cond.methodLink RX6 59 yX6_trackNumbered, Cond.instanceMethod yX6_trackNumbered, Cond.selects RX6 yX6_trackNumbered yX6_trackNumbered, Cond.code yX6_trackNumbered cX6_trackNumbered 2 (some (.object "Ghostracer$Track")), Cond.classLink RX6 289 "java/lang/IndexOutOfBoundsException"]
def wsX6_isSound_r2 : List Cond := [Cond.initialized "java/lang/IndexOutOfBoundsException", Cond.fieldLink RX6 48 "Ghostracer" "trackCount" "I", Cond.fieldLink RX6 11 "Ghostracer" "tracks" "[LGhostracer$Track;", Cond.methodLink RX6 129 yX6_carNumbered, Cond.instanceMethod yX6_carNumbered, Cond.selects RX6 yX6_carNumbered yX6_carNumbered, Cond.code yX6_carNumbered cX6_carNumbered 2 (some (.object "Ghostracer$Car")), Cond.fieldLink RX6 95 "Ghostracer" "carCount" "I", Cond.fieldLink RX6 17 "Ghostracer" "cars" "[LGhostracer$Car;", Cond.methodLink RX6 185 yX3_follow, Cond.instanceMethod yX3_follow, Cond.selects RX3 yX3_follow yX3_follow, Cond.initialized RX3, Cond.code yX3_follow cX3_follow 6 none, Cond.fieldLink RX3 7 "Ghostracer$Ride" "place" "I", Cond.fieldLink RX3 13 "Ghostracer$Ride" "speed" "I", Cond.fieldLink RX3 16 "Ghostracer$Ride" "ticks" "I", Cond.fieldLink RX3 19 "Ghostracer$Ride" "time" "I", Cond.fieldLink RX3 22 "Ghostracer$Ride" "isOver" "Z", Cond.methodLink RX3 26 yX3_move, Cond.instanceMethod yX3_move, Cond.selects RX3 yX3_move yX3_move, Cond.code yX3_move cX3_move 4 none, Cond.fieldLink RX3 36 "Ghostracer$Track" "length" "I"]
def wsX6_isSound_r3 : List Cond := [Cond.fieldLink RX3 49 "Ghostracer$Car" "grip" "I", Cond.methodLink RX3 30 yX1_speedAfter, Cond.instanceMethod yX1_speedAfter, Cond.selects RX1 yX1_speedAfter yX1_speedAfter, Cond.initialized RX1, Cond.code yX1_speedAfter cX1_speedAfter 3 (some .int), Cond.fieldLink RX1 7 "Ghostracer$Car" "top" "I", Cond.fieldLink RX1 13 "Ghostracer$Car" "pull" "I", Cond.methodLink RX1 16 Lib.Math.min.name, Cond.static Lib.Math.min.name, Cond.initialized "java/lang/Math", Cond.code Lib.Math.min.name Lib.Math.min.code 2 (some .int), Cond.methodLink RX1 22 Lib.Math.max.name, Cond.static Lib.Math.max.name, Cond.code Lib.Math.max.name Lib.Math.max.code 2 (some .int), Cond.methodLink RX3 41 yX3_finish, Cond.instanceMethod yX3_finish, Cond.selects RX3 yX3_finish yX3_finish, Cond.code yX3_finish cX3_finish 3 none, Cond.methodLink RX3 45 yX5_limitOf, Cond.instanceMethod yX5_limitOf, Cond.selects RX5 yX5_limitOf yX5_limitOf, Cond.initialized RX5, Cond.code yX5_limitOf cX5_limitOf 3 (some .int)]
def wsX6_isSound_r4 : List Cond := [Cond.fieldLink RX5 18 "Ghostracer$Track" "stretches" "I", Cond.fieldLink RX5 9 "Ghostracer$Track" "ends" "[I", Cond.fieldLink RX5 15 "Ghostracer$Track" "limits" "[I", Cond.methodLink RX6 225 yX0_has, Cond.instanceMethod yX0_has, Cond.selects RX0 yX0_has yX0_has, Cond.initialized RX0, Cond.code yX0_has cX0_has 2 (some .boolean), Cond.fieldLink RX0 18 "Ghostracer$Book" "count" "I"]
def wsX6_isSound : List Cond := .code yX6_isSound cX6_isSound 5 (some .boolean) :: ((wsX6_isSound_r1 ++ (wsX6_isSound_r2 ++ (wsX6_isSound_r3 ++ wsX6_isSound_r4))) ++ wsX60 ++ wsX00 ++ wsX20 ++ wsX30 ++ wsX50 ++ wsX10 ++ (vx_atS RX6 293 "java/lang/IndexOutOfBoundsException" ["java/lang/RuntimeException", "java/lang/Exception"]).filter goodWord)
def wsX7_init_r1 : List Cond := [Cond.methodLink RX7 1 objectInit, Cond.instanceMethod objectInit, Cond.code objectInit ⟨#[0xb1]⟩ 1 none, Cond.arrayClass .int, Cond.fieldLink RX7 7 "GhostracerModel" "stretches" "[I", Cond.fieldLink RX7 13 "GhostracerModel" "length" "[I", Cond.fieldLink RX7 16 "GhostracerModel" "limit" "[I", Cond.fieldLink RX7 19 "GhostracerModel" "top" "[I", Cond.fieldLink RX7 22 "GhostracerModel" "pull" "[I", Cond.fieldLink RX7 25 "GhostracerModel" "grip" "[I", Cond.arrayClass .char, Cond.fieldLink RX7 28 "GhostracerModel" "row" "[C", Cond.fieldLink RX7 32 "GhostracerModel" "input" "[C", Cond.fieldLink RX7 35 "GhostracerModel" "ticks" "[I", Cond.fieldLink RX7 38 "GhostracerModel" "time" "[I", Cond.fieldLink RX7 41 "GhostracerModel" "penalty" "[I", Cond.fieldLink RX7 44 "GhostracerModel" "driver" "[I", Cond.fieldLink RX7 47 "GhostracerModel" "track" "[I", Cond.fieldLink RX7 50 "GhostracerModel" "car" "[I", Cond.fieldLink RX7 53 "GhostracerModel" "ghost" "[I", Cond.fieldLink RX7 56 "GhostracerModel" "round" "[I", Cond.fieldLink RX7 59 "GhostracerModel" "base" "[I", Cond.arrayClass .boolean, Cond.fieldLink RX7 62 "GhostracerModel" "isOut" "[Z"]
def wsX7_init_r2 : List Cond := [Cond.fieldLink RX7 66 "GhostracerModel" "roundTrack" "[I", Cond.fieldLink RX7 69 "GhostracerModel" "counted" "[I"]
def wsX7_init : List Cond := .code yX7_init cX7_init 1 none :: ((wsX7_init_r1 ++ wsX7_init_r2) ++ wsX70)
def wsX7_thrown : List Cond := .code yX7_thrown cX7_thrown 1 (some .int) :: ([.fieldLink RX7 72 "GhostracerModel" "code" "I"] ++ wsX70)
def wsX7_fails : List Cond := .code yX7_fails cX7_fails 2 (some .boolean) :: ([.fieldLink RX7 72 "GhostracerModel" "code" "I"] ++ wsX70)
def wsX7_in : List Cond := .code yX7_in cX7_in 3 (some .boolean) :: ([])
def wsX7_isNoTrack : List Cond := .code yX7_isNoTrack cX7_isNoTrack 2 (some .boolean) :: ([.fieldLink RX7 76 "GhostracerModel" "tracks" "I", .methodLink RX7 79 yX7_in, .static yX7_in, .initialized RX7, .code yX7_in cX7_in 3 (some .boolean)] ++ wsX70)
def wsX7_isNoCar : List Cond := .code yX7_isNoCar cX7_isNoCar 2 (some .boolean) :: ([.fieldLink RX7 83 "GhostracerModel" "cars" "I", .methodLink RX7 79 yX7_in, .static yX7_in, .initialized RX7, .code yX7_in cX7_in 3 (some .boolean)] ++ wsX70)
def wsX7_isNoLap : List Cond := .code yX7_isNoLap cX7_isNoLap 2 (some .boolean) :: ([.fieldLink RX7 86 "GhostracerModel" "laps" "I", .methodLink RX7 79 yX7_in, .static yX7_in, .initialized RX7, .code yX7_in cX7_in 3 (some .boolean)] ++ wsX70)
def wsX7_track : List Cond := .code yX7_track cX7_track 1 (some .int) :: ([.fieldLink RX7 76 "GhostracerModel" "tracks" "I", .methodLink RX7 89 yX7_fails, .instanceMethod yX7_fails, .selects RX7 yX7_fails yX7_fails, .initialized RX7, .code yX7_fails cX7_fails 2 (some .boolean), .fieldLink RX7 72 "GhostracerModel" "code" "I"] ++ wsX70)
def wsX7_lengthNow : List Cond := .code yX7_lengthNow cX7_lengthNow 4 (some .int) :: ([.fieldLink RX7 7 "GhostracerModel" "stretches" "[I", .fieldLink RX7 13 "GhostracerModel" "length" "[I"] ++ wsX70)
def wsX7_stretch : List Cond := .code yX7_stretch cX7_stretch 6 (some .int) :: ([.fieldLink RX7 86 "GhostracerModel" "laps" "I", .fieldLink RX7 47 "GhostracerModel" "track" "[I", .fieldLink RX7 7 "GhostracerModel" "stretches" "[I", .fieldLink RX7 13 "GhostracerModel" "length" "[I", .fieldLink RX7 16 "GhostracerModel" "limit" "[I", .methodLink RX7 93 yX7_isNoTrack, .instanceMethod yX7_isNoTrack, .selects RX7 yX7_isNoTrack yX7_isNoTrack, .initialized RX7, .code yX7_isNoTrack cX7_isNoTrack 2 (some .boolean), .fieldLink RX7 76 "GhostracerModel" "tracks" "I", .methodLink RX7 79 yX7_in, .static yX7_in, .code yX7_in cX7_in 3 (some .boolean), .methodLink RX7 89 yX7_fails, .instanceMethod yX7_fails, .selects RX7 yX7_fails yX7_fails, .code yX7_fails cX7_fails 2 (some .boolean), .fieldLink RX7 72 "GhostracerModel" "code" "I", .methodLink RX7 96 yX7_lengthNow, .instanceMethod yX7_lengthNow, .selects RX7 yX7_lengthNow yX7_lengthNow, .code yX7_lengthNow cX7_lengthNow 4 (some .int)] ++ wsX70)
def wsX7_car : List Cond := .code yX7_car cX7_car 4 (some .int) :: ([.fieldLink RX7 83 "GhostracerModel" "cars" "I", .fieldLink RX7 19 "GhostracerModel" "top" "[I", .fieldLink RX7 22 "GhostracerModel" "pull" "[I", .fieldLink RX7 25 "GhostracerModel" "grip" "[I", .methodLink RX7 79 yX7_in, .static yX7_in, .initialized RX7, .code yX7_in cX7_in 3 (some .boolean), .methodLink RX7 89 yX7_fails, .instanceMethod yX7_fails, .selects RX7 yX7_fails yX7_fails, .code yX7_fails cX7_fails 2 (some .boolean), .fieldLink RX7 72 "GhostracerModel" "code" "I"] ++ wsX70)
def wsX7_lengthOf : List Cond := .code yX7_lengthOf cX7_lengthOf 2 (some .int) :: ([.methodLink RX7 93 yX7_isNoTrack, .instanceMethod yX7_isNoTrack, .selects RX7 yX7_isNoTrack yX7_isNoTrack, .initialized RX7, .code yX7_isNoTrack cX7_isNoTrack 2 (some .boolean), .fieldLink RX7 76 "GhostracerModel" "tracks" "I", .methodLink RX7 79 yX7_in, .static yX7_in, .code yX7_in cX7_in 3 (some .boolean), .methodLink RX7 89 yX7_fails, .instanceMethod yX7_fails, .selects RX7 yX7_fails yX7_fails, .code yX7_fails cX7_fails 2 (some .boolean), .fieldLink RX7 72 "GhostracerModel" "code" "I", .methodLink RX7 96 yX7_lengthNow, .instanceMethod yX7_lengthNow, .selects RX7 yX7_lengthNow yX7_lengthNow, .code yX7_lengthNow cX7_lengthNow 4 (some .int), .fieldLink RX7 7 "GhostracerModel" "stretches" "[I", .fieldLink RX7 13 "GhostracerModel" "length" "[I"] ++ wsX70)
def wsX7_limitNow : List Cond := .code yX7_limitNow cX7_limitNow 5 (some .int) :: ([.fieldLink RX7 13 "GhostracerModel" "length" "[I", .fieldLink RX7 16 "GhostracerModel" "limit" "[I"] ++ wsX70)
def wsX7_limitAt_r1 : List Cond := [Cond.methodLink RX7 93 yX7_isNoTrack, Cond.instanceMethod yX7_isNoTrack, Cond.selects RX7 yX7_isNoTrack yX7_isNoTrack, Cond.initialized RX7, Cond.code yX7_isNoTrack cX7_isNoTrack 2 (some .boolean), Cond.fieldLink RX7 76 "GhostracerModel" "tracks" "I", Cond.methodLink RX7 79 yX7_in, Cond.static yX7_in, Cond.code yX7_in cX7_in 3 (some .boolean), Cond.methodLink RX7 96 yX7_lengthNow, Cond.instanceMethod yX7_lengthNow, Cond.selects RX7 yX7_lengthNow yX7_lengthNow, Cond.code yX7_lengthNow cX7_lengthNow 4 (some .int), Cond.fieldLink RX7 7 "GhostracerModel" "stretches" "[I", Cond.fieldLink RX7 13 "GhostracerModel" "length" "[I", Cond.methodLink RX7 89 yX7_fails, Cond.instanceMethod yX7_fails, Cond.selects RX7 yX7_fails yX7_fails, Cond.code yX7_fails cX7_fails 2 (some .boolean), Cond.fieldLink RX7 72 "GhostracerModel" "code" "I", Cond.methodLink RX7 100 yX7_limitNow, Cond.instanceMethod yX7_limitNow, Cond.selects RX7 yX7_limitNow yX7_limitNow, Cond.code yX7_limitNow cX7_limitNow 5 (some .int)]
def wsX7_limitAt_r2 : List Cond := [Cond.fieldLink RX7 16 "GhostracerModel" "limit" "[I"]
def wsX7_limitAt : List Cond := .code yX7_limitAt cX7_limitAt 3 (some .int) :: ((wsX7_limitAt_r1 ++ wsX7_limitAt_r2) ++ wsX70)
def wsX7_type : List Cond := .code yX7_type cX7_type 5 (some .int) :: ([.fieldLink RX7 104 "GhostracerModel" "typed" "I", .fieldLink RX7 28 "GhostracerModel" "row" "[C", .methodLink RX7 79 yX7_in, .static yX7_in, .initialized RX7, .code yX7_in cX7_in 3 (some .boolean), .methodLink RX7 89 yX7_fails, .instanceMethod yX7_fails, .selects RX7 yX7_fails yX7_fails, .code yX7_fails cX7_fails 2 (some .boolean), .fieldLink RX7 72 "GhostracerModel" "code" "I"] ++ wsX70)
def wsX7_wipe : List Cond := .code yX7_wipe cX7_wipe 2 (some .int) :: ([.fieldLink RX7 72 "GhostracerModel" "code" "I", .fieldLink RX7 104 "GhostracerModel" "typed" "I"] ++ wsX70)
def wsX7_starts : List Cond := .code yX7_starts cX7_starts 1 none :: ([.fieldLink RX7 107 "GhostracerModel" "place" "I", .fieldLink RX7 110 "GhostracerModel" "speed" "I", .fieldLink RX7 113 "GhostracerModel" "tick" "I", .fieldLink RX7 116 "GhostracerModel" "isOver" "Z"] ++ wsX70)
def wsX7_goes : List Cond := .code yX7_goes cX7_goes 4 none :: ([.fieldLink RX7 110 "GhostracerModel" "speed" "I", .fieldLink RX7 22 "GhostracerModel" "pull" "[I", .fieldLink RX7 19 "GhostracerModel" "top" "[I", .fieldLink RX7 107 "GhostracerModel" "place" "I", .fieldLink RX7 113 "GhostracerModel" "tick" "I", .fieldLink RX7 116 "GhostracerModel" "isOver" "Z", .fieldLink RX7 25 "GhostracerModel" "grip" "[I", .methodLink RX7 96 yX7_lengthNow, .instanceMethod yX7_lengthNow, .selects RX7 yX7_lengthNow yX7_lengthNow, .initialized RX7, .code yX7_lengthNow cX7_lengthNow 4 (some .int), .fieldLink RX7 7 "GhostracerModel" "stretches" "[I", .fieldLink RX7 13 "GhostracerModel" "length" "[I", .methodLink RX7 100 yX7_limitNow, .instanceMethod yX7_limitNow, .selects RX7 yX7_limitNow yX7_limitNow, .code yX7_limitNow cX7_limitNow 5 (some .int), .fieldLink RX7 16 "GhostracerModel" "limit" "[I"] ++ wsX70)
def wsX7_drives_r1 : List Cond := [Cond.fieldLink RX7 113 "GhostracerModel" "tick" "I", Cond.fieldLink RX7 104 "GhostracerModel" "typed" "I", Cond.fieldLink RX7 116 "GhostracerModel" "isOver" "Z", Cond.fieldLink RX7 28 "GhostracerModel" "row" "[C", Cond.methodLink RX7 120 yX7_starts, Cond.instanceMethod yX7_starts, Cond.selects RX7 yX7_starts yX7_starts, Cond.initialized RX7, Cond.code yX7_starts cX7_starts 1 none, Cond.fieldLink RX7 107 "GhostracerModel" "place" "I", Cond.fieldLink RX7 110 "GhostracerModel" "speed" "I", Cond.methodLink RX7 123 yX7_goes, Cond.instanceMethod yX7_goes, Cond.selects RX7 yX7_goes yX7_goes, Cond.code yX7_goes cX7_goes 4 none, Cond.fieldLink RX7 22 "GhostracerModel" "pull" "[I", Cond.fieldLink RX7 19 "GhostracerModel" "top" "[I", Cond.fieldLink RX7 25 "GhostracerModel" "grip" "[I", Cond.methodLink RX7 96 yX7_lengthNow, Cond.instanceMethod yX7_lengthNow, Cond.selects RX7 yX7_lengthNow yX7_lengthNow, Cond.code yX7_lengthNow cX7_lengthNow 4 (some .int), Cond.fieldLink RX7 7 "GhostracerModel" "stretches" "[I", Cond.fieldLink RX7 13 "GhostracerModel" "length" "[I"]
def wsX7_drives_r2 : List Cond := [Cond.methodLink RX7 100 yX7_limitNow, Cond.instanceMethod yX7_limitNow, Cond.selects RX7 yX7_limitNow yX7_limitNow, Cond.code yX7_limitNow cX7_limitNow 5 (some .int), Cond.fieldLink RX7 16 "GhostracerModel" "limit" "[I"]
def wsX7_drives : List Cond := .code yX7_drives cX7_drives 3 none :: ((wsX7_drives_r1 ++ wsX7_drives_r2) ++ wsX70)
def wsX7_timeNow : List Cond := .code yX7_timeNow cX7_timeNow 2 (some .int) :: ([.fieldLink RX7 113 "GhostracerModel" "tick" "I", .fieldLink RX7 107 "GhostracerModel" "place" "I", .fieldLink RX7 110 "GhostracerModel" "speed" "I", .methodLink RX7 96 yX7_lengthNow, .instanceMethod yX7_lengthNow, .selects RX7 yX7_lengthNow yX7_lengthNow, .initialized RX7, .code yX7_lengthNow cX7_lengthNow 4 (some .int), .fieldLink RX7 7 "GhostracerModel" "stretches" "[I", .fieldLink RX7 13 "GhostracerModel" "length" "[I"] ++ wsX70)
def wsX7_canDrive_r1 : List Cond := [Cond.fieldLink RX7 7 "GhostracerModel" "stretches" "[I", Cond.fieldLink RX7 116 "GhostracerModel" "isOver" "Z", Cond.methodLink RX7 127 yX7_drives, Cond.instanceMethod yX7_drives, Cond.selects RX7 yX7_drives yX7_drives, Cond.initialized RX7, Cond.code yX7_drives cX7_drives 3 none, Cond.fieldLink RX7 113 "GhostracerModel" "tick" "I", Cond.fieldLink RX7 104 "GhostracerModel" "typed" "I", Cond.fieldLink RX7 28 "GhostracerModel" "row" "[C", Cond.methodLink RX7 120 yX7_starts, Cond.instanceMethod yX7_starts, Cond.selects RX7 yX7_starts yX7_starts, Cond.code yX7_starts cX7_starts 1 none, Cond.fieldLink RX7 107 "GhostracerModel" "place" "I", Cond.fieldLink RX7 110 "GhostracerModel" "speed" "I", Cond.methodLink RX7 123 yX7_goes, Cond.instanceMethod yX7_goes, Cond.selects RX7 yX7_goes yX7_goes, Cond.code yX7_goes cX7_goes 4 none, Cond.fieldLink RX7 22 "GhostracerModel" "pull" "[I", Cond.fieldLink RX7 19 "GhostracerModel" "top" "[I", Cond.fieldLink RX7 25 "GhostracerModel" "grip" "[I", Cond.methodLink RX7 96 yX7_lengthNow]
def wsX7_canDrive_r2 : List Cond := [Cond.instanceMethod yX7_lengthNow, Cond.selects RX7 yX7_lengthNow yX7_lengthNow, Cond.code yX7_lengthNow cX7_lengthNow 4 (some .int), Cond.fieldLink RX7 13 "GhostracerModel" "length" "[I", Cond.methodLink RX7 100 yX7_limitNow, Cond.instanceMethod yX7_limitNow, Cond.selects RX7 yX7_limitNow yX7_limitNow, Cond.code yX7_limitNow cX7_limitNow 5 (some .int), Cond.fieldLink RX7 16 "GhostracerModel" "limit" "[I"]
def wsX7_canDrive : List Cond := .code yX7_canDrive cX7_canDrive 3 (some .boolean) :: ((wsX7_canDrive_r1 ++ wsX7_canDrive_r2) ++ wsX70)
def wsX7_isGhost : List Cond := .code yX7_isGhost cX7_isGhost 3 (some .boolean) :: ([.fieldLink RX7 47 "GhostracerModel" "track" "[I", .fieldLink RX7 62 "GhostracerModel" "isOut" "[Z", .methodLink RX7 131 yX7_isNoLap, .instanceMethod yX7_isNoLap, .selects RX7 yX7_isNoLap yX7_isNoLap, .initialized RX7, .code yX7_isNoLap cX7_isNoLap 2 (some .boolean), .fieldLink RX7 86 "GhostracerModel" "laps" "I", .methodLink RX7 79 yX7_in, .static yX7_in, .code yX7_in cX7_in 3 (some .boolean)] ++ wsX70)
def wsX7_depthOf : List Cond := .code yX7_depthOf cX7_depthOf 4 (some .int) :: ([.fieldLink RX7 59 "GhostracerModel" "base" "[I"] ++ wsX70)
def wsX7_drive_r1 : List Cond := [Cond.fieldLink RX7 86 "GhostracerModel" "laps" "I", Cond.fieldLink RX7 35 "GhostracerModel" "ticks" "[I", Cond.fieldLink RX7 113 "GhostracerModel" "tick" "I", Cond.fieldLink RX7 38 "GhostracerModel" "time" "[I", Cond.fieldLink RX7 32 "GhostracerModel" "input" "[C", Cond.fieldLink RX7 28 "GhostracerModel" "row" "[C", Cond.fieldLink RX7 44 "GhostracerModel" "driver" "[I", Cond.fieldLink RX7 47 "GhostracerModel" "track" "[I", Cond.fieldLink RX7 50 "GhostracerModel" "car" "[I", Cond.fieldLink RX7 53 "GhostracerModel" "ghost" "[I", Cond.fieldLink RX7 56 "GhostracerModel" "round" "[I", Cond.fieldLink RX7 147 "GhostracerModel" "isOpen" "Z", Cond.fieldLink RX7 66 "GhostracerModel" "roundTrack" "[I", Cond.fieldLink RX7 150 "GhostracerModel" "rounds" "I", Cond.fieldLink RX7 59 "GhostracerModel" "base" "[I", Cond.fieldLink RX7 104 "GhostracerModel" "typed" "I", Cond.methodLink RX7 79 yX7_in, Cond.static yX7_in, Cond.initialized RX7, Cond.code yX7_in cX7_in 3 (some .boolean), Cond.methodLink RX7 93 yX7_isNoTrack, Cond.instanceMethod yX7_isNoTrack, Cond.selects RX7 yX7_isNoTrack yX7_isNoTrack, Cond.code yX7_isNoTrack cX7_isNoTrack 2 (some .boolean)]
def wsX7_drive_r2 : List Cond := [Cond.fieldLink RX7 76 "GhostracerModel" "tracks" "I", Cond.methodLink RX7 134 yX7_isNoCar, Cond.instanceMethod yX7_isNoCar, Cond.selects RX7 yX7_isNoCar yX7_isNoCar, Cond.code yX7_isNoCar cX7_isNoCar 2 (some .boolean), Cond.fieldLink RX7 83 "GhostracerModel" "cars" "I", Cond.methodLink RX7 137 yX7_isGhost, Cond.instanceMethod yX7_isGhost, Cond.selects RX7 yX7_isGhost yX7_isGhost, Cond.code yX7_isGhost cX7_isGhost 3 (some .boolean), Cond.fieldLink RX7 62 "GhostracerModel" "isOut" "[Z", Cond.methodLink RX7 131 yX7_isNoLap, Cond.instanceMethod yX7_isNoLap, Cond.selects RX7 yX7_isNoLap yX7_isNoLap, Cond.code yX7_isNoLap cX7_isNoLap 2 (some .boolean), Cond.methodLink RX7 141 yX7_canDrive, Cond.instanceMethod yX7_canDrive, Cond.selects RX7 yX7_canDrive yX7_canDrive, Cond.code yX7_canDrive cX7_canDrive 3 (some .boolean), Cond.fieldLink RX7 7 "GhostracerModel" "stretches" "[I", Cond.fieldLink RX7 116 "GhostracerModel" "isOver" "Z", Cond.methodLink RX7 127 yX7_drives, Cond.instanceMethod yX7_drives, Cond.selects RX7 yX7_drives yX7_drives]
def wsX7_drive_r3 : List Cond := [Cond.code yX7_drives cX7_drives 3 none, Cond.methodLink RX7 120 yX7_starts, Cond.instanceMethod yX7_starts, Cond.selects RX7 yX7_starts yX7_starts, Cond.code yX7_starts cX7_starts 1 none, Cond.fieldLink RX7 107 "GhostracerModel" "place" "I", Cond.fieldLink RX7 110 "GhostracerModel" "speed" "I", Cond.methodLink RX7 123 yX7_goes, Cond.instanceMethod yX7_goes, Cond.selects RX7 yX7_goes yX7_goes, Cond.code yX7_goes cX7_goes 4 none, Cond.fieldLink RX7 22 "GhostracerModel" "pull" "[I", Cond.fieldLink RX7 19 "GhostracerModel" "top" "[I", Cond.fieldLink RX7 25 "GhostracerModel" "grip" "[I", Cond.methodLink RX7 96 yX7_lengthNow, Cond.instanceMethod yX7_lengthNow, Cond.selects RX7 yX7_lengthNow yX7_lengthNow, Cond.code yX7_lengthNow cX7_lengthNow 4 (some .int), Cond.fieldLink RX7 13 "GhostracerModel" "length" "[I", Cond.methodLink RX7 100 yX7_limitNow, Cond.instanceMethod yX7_limitNow, Cond.selects RX7 yX7_limitNow yX7_limitNow, Cond.code yX7_limitNow cX7_limitNow 5 (some .int), Cond.fieldLink RX7 16 "GhostracerModel" "limit" "[I"]
def wsX7_drive_r4 : List Cond := [Cond.methodLink RX7 89 yX7_fails, Cond.instanceMethod yX7_fails, Cond.selects RX7 yX7_fails yX7_fails, Cond.code yX7_fails cX7_fails 2 (some .boolean), Cond.fieldLink RX7 72 "GhostracerModel" "code" "I", Cond.methodLink RX7 144 yX7_timeNow, Cond.instanceMethod yX7_timeNow, Cond.selects RX7 yX7_timeNow yX7_timeNow, Cond.code yX7_timeNow cX7_timeNow 2 (some .int), Cond.methodLink RX7 153 yX7_depthOf, Cond.instanceMethod yX7_depthOf, Cond.selects RX7 yX7_depthOf yX7_depthOf, Cond.code yX7_depthOf cX7_depthOf 4 (some .int)]
def wsX7_drive : List Cond := .code yX7_drive cX7_drive 8 (some .int) :: ((wsX7_drive_r1 ++ (wsX7_drive_r2 ++ (wsX7_drive_r3 ++ wsX7_drive_r4))) ++ wsX70)
def wsX7_tryOut_r1 : List Cond := [Cond.methodLink RX7 93 yX7_isNoTrack, Cond.instanceMethod yX7_isNoTrack, Cond.selects RX7 yX7_isNoTrack yX7_isNoTrack, Cond.initialized RX7, Cond.code yX7_isNoTrack cX7_isNoTrack 2 (some .boolean), Cond.fieldLink RX7 76 "GhostracerModel" "tracks" "I", Cond.methodLink RX7 79 yX7_in, Cond.static yX7_in, Cond.code yX7_in cX7_in 3 (some .boolean), Cond.methodLink RX7 134 yX7_isNoCar, Cond.instanceMethod yX7_isNoCar, Cond.selects RX7 yX7_isNoCar yX7_isNoCar, Cond.code yX7_isNoCar cX7_isNoCar 2 (some .boolean), Cond.fieldLink RX7 83 "GhostracerModel" "cars" "I", Cond.methodLink RX7 141 yX7_canDrive, Cond.instanceMethod yX7_canDrive, Cond.selects RX7 yX7_canDrive yX7_canDrive, Cond.code yX7_canDrive cX7_canDrive 3 (some .boolean), Cond.fieldLink RX7 7 "GhostracerModel" "stretches" "[I", Cond.fieldLink RX7 116 "GhostracerModel" "isOver" "Z", Cond.methodLink RX7 127 yX7_drives, Cond.instanceMethod yX7_drives, Cond.selects RX7 yX7_drives yX7_drives, Cond.code yX7_drives cX7_drives 3 none]
def wsX7_tryOut_r2 : List Cond := [Cond.fieldLink RX7 113 "GhostracerModel" "tick" "I", Cond.fieldLink RX7 104 "GhostracerModel" "typed" "I", Cond.fieldLink RX7 28 "GhostracerModel" "row" "[C", Cond.methodLink RX7 120 yX7_starts, Cond.instanceMethod yX7_starts, Cond.selects RX7 yX7_starts yX7_starts, Cond.code yX7_starts cX7_starts 1 none, Cond.fieldLink RX7 107 "GhostracerModel" "place" "I", Cond.fieldLink RX7 110 "GhostracerModel" "speed" "I", Cond.methodLink RX7 123 yX7_goes, Cond.instanceMethod yX7_goes, Cond.selects RX7 yX7_goes yX7_goes, Cond.code yX7_goes cX7_goes 4 none, Cond.fieldLink RX7 22 "GhostracerModel" "pull" "[I", Cond.fieldLink RX7 19 "GhostracerModel" "top" "[I", Cond.fieldLink RX7 25 "GhostracerModel" "grip" "[I", Cond.methodLink RX7 96 yX7_lengthNow, Cond.instanceMethod yX7_lengthNow, Cond.selects RX7 yX7_lengthNow yX7_lengthNow, Cond.code yX7_lengthNow cX7_lengthNow 4 (some .int), Cond.fieldLink RX7 13 "GhostracerModel" "length" "[I", Cond.methodLink RX7 100 yX7_limitNow, Cond.instanceMethod yX7_limitNow, Cond.selects RX7 yX7_limitNow yX7_limitNow]
def wsX7_tryOut_r3 : List Cond := [Cond.code yX7_limitNow cX7_limitNow 5 (some .int), Cond.fieldLink RX7 16 "GhostracerModel" "limit" "[I", Cond.methodLink RX7 89 yX7_fails, Cond.instanceMethod yX7_fails, Cond.selects RX7 yX7_fails yX7_fails, Cond.code yX7_fails cX7_fails 2 (some .boolean), Cond.fieldLink RX7 72 "GhostracerModel" "code" "I", Cond.methodLink RX7 144 yX7_timeNow, Cond.instanceMethod yX7_timeNow, Cond.selects RX7 yX7_timeNow yX7_timeNow, Cond.code yX7_timeNow cX7_timeNow 2 (some .int)]
def wsX7_tryOut : List Cond := .code yX7_tryOut cX7_tryOut 4 (some .int) :: ((wsX7_tryOut_r1 ++ (wsX7_tryOut_r2 ++ wsX7_tryOut_r3)) ++ wsX70)
def wsX7_laps : List Cond := .code yX7_laps cX7_laps 1 (some .int) :: ([.fieldLink RX7 72 "GhostracerModel" "code" "I", .fieldLink RX7 86 "GhostracerModel" "laps" "I"] ++ wsX70)
def wsX7_countOf : List Cond := .code yX7_countOf cX7_countOf 2 (some .int) :: ([.fieldLink RX7 38 "GhostracerModel" "time" "[I", .fieldLink RX7 41 "GhostracerModel" "penalty" "[I"] ++ wsX70)
def wsX7_time : List Cond := .code yX7_time cX7_time 3 (some .int) :: ([.fieldLink RX7 38 "GhostracerModel" "time" "[I", .methodLink RX7 131 yX7_isNoLap, .instanceMethod yX7_isNoLap, .selects RX7 yX7_isNoLap yX7_isNoLap, .initialized RX7, .code yX7_isNoLap cX7_isNoLap 2 (some .boolean), .fieldLink RX7 86 "GhostracerModel" "laps" "I", .methodLink RX7 79 yX7_in, .static yX7_in, .code yX7_in cX7_in 3 (some .boolean), .methodLink RX7 89 yX7_fails, .instanceMethod yX7_fails, .selects RX7 yX7_fails yX7_fails, .code yX7_fails cX7_fails 2 (some .boolean), .fieldLink RX7 72 "GhostracerModel" "code" "I", .methodLink RX7 156 yX7_countOf, .instanceMethod yX7_countOf, .selects RX7 yX7_countOf yX7_countOf, .code yX7_countOf cX7_countOf 2 (some .int), .fieldLink RX7 41 "GhostracerModel" "penalty" "[I"] ++ wsX70)
def wsX7_ticks : List Cond := .code yX7_ticks cX7_ticks 2 (some .int) :: ([.fieldLink RX7 35 "GhostracerModel" "ticks" "[I", .methodLink RX7 131 yX7_isNoLap, .instanceMethod yX7_isNoLap, .selects RX7 yX7_isNoLap yX7_isNoLap, .initialized RX7, .code yX7_isNoLap cX7_isNoLap 2 (some .boolean), .fieldLink RX7 86 "GhostracerModel" "laps" "I", .methodLink RX7 79 yX7_in, .static yX7_in, .code yX7_in cX7_in 3 (some .boolean), .methodLink RX7 89 yX7_fails, .instanceMethod yX7_fails, .selects RX7 yX7_fails yX7_fails, .code yX7_fails cX7_fails 2 (some .boolean), .fieldLink RX7 72 "GhostracerModel" "code" "I"] ++ wsX70)
def wsX7_inputAt : List Cond := .code yX7_inputAt cX7_inputAt 3 (some .char) :: ([.fieldLink RX7 35 "GhostracerModel" "ticks" "[I", .fieldLink RX7 32 "GhostracerModel" "input" "[C", .methodLink RX7 131 yX7_isNoLap, .instanceMethod yX7_isNoLap, .selects RX7 yX7_isNoLap yX7_isNoLap, .initialized RX7, .code yX7_isNoLap cX7_isNoLap 2 (some .boolean), .fieldLink RX7 86 "GhostracerModel" "laps" "I", .methodLink RX7 79 yX7_in, .static yX7_in, .code yX7_in cX7_in 3 (some .boolean), .methodLink RX7 89 yX7_fails, .instanceMethod yX7_fails, .selects RX7 yX7_fails yX7_fails, .code yX7_fails cX7_fails 2 (some .boolean), .fieldLink RX7 72 "GhostracerModel" "code" "I"] ++ wsX70)
def wsX7_replay_r1 : List Cond := [Cond.fieldLink RX7 35 "GhostracerModel" "ticks" "[I", Cond.fieldLink RX7 113 "GhostracerModel" "tick" "I", Cond.fieldLink RX7 47 "GhostracerModel" "track" "[I", Cond.fieldLink RX7 50 "GhostracerModel" "car" "[I", Cond.fieldLink RX7 32 "GhostracerModel" "input" "[C", Cond.fieldLink RX7 110 "GhostracerModel" "speed" "I", Cond.fieldLink RX7 107 "GhostracerModel" "place" "I", Cond.methodLink RX7 131 yX7_isNoLap, Cond.instanceMethod yX7_isNoLap, Cond.selects RX7 yX7_isNoLap yX7_isNoLap, Cond.initialized RX7, Cond.code yX7_isNoLap cX7_isNoLap 2 (some .boolean), Cond.fieldLink RX7 86 "GhostracerModel" "laps" "I", Cond.methodLink RX7 79 yX7_in, Cond.static yX7_in, Cond.code yX7_in cX7_in 3 (some .boolean), Cond.methodLink RX7 89 yX7_fails, Cond.instanceMethod yX7_fails, Cond.selects RX7 yX7_fails yX7_fails, Cond.code yX7_fails cX7_fails 2 (some .boolean), Cond.fieldLink RX7 72 "GhostracerModel" "code" "I", Cond.methodLink RX7 120 yX7_starts, Cond.instanceMethod yX7_starts, Cond.selects RX7 yX7_starts yX7_starts]
def wsX7_replay_r2 : List Cond := [Cond.code yX7_starts cX7_starts 1 none, Cond.fieldLink RX7 116 "GhostracerModel" "isOver" "Z", Cond.methodLink RX7 123 yX7_goes, Cond.instanceMethod yX7_goes, Cond.selects RX7 yX7_goes yX7_goes, Cond.code yX7_goes cX7_goes 4 none, Cond.fieldLink RX7 22 "GhostracerModel" "pull" "[I", Cond.fieldLink RX7 19 "GhostracerModel" "top" "[I", Cond.fieldLink RX7 25 "GhostracerModel" "grip" "[I", Cond.methodLink RX7 96 yX7_lengthNow, Cond.instanceMethod yX7_lengthNow, Cond.selects RX7 yX7_lengthNow yX7_lengthNow, Cond.code yX7_lengthNow cX7_lengthNow 4 (some .int), Cond.fieldLink RX7 7 "GhostracerModel" "stretches" "[I", Cond.fieldLink RX7 13 "GhostracerModel" "length" "[I", Cond.methodLink RX7 100 yX7_limitNow, Cond.instanceMethod yX7_limitNow, Cond.selects RX7 yX7_limitNow yX7_limitNow, Cond.code yX7_limitNow cX7_limitNow 5 (some .int), Cond.fieldLink RX7 16 "GhostracerModel" "limit" "[I"]
def wsX7_replay : List Cond := .code yX7_replay cX7_replay 4 (some .int) :: ((wsX7_replay_r1 ++ wsX7_replay_r2) ++ wsX70)
def wsX7_of : List Cond := .code yX7_of cX7_of 4 (some .int) :: ([.fieldLink RX7 44 "GhostracerModel" "driver" "[I", .fieldLink RX7 47 "GhostracerModel" "track" "[I", .fieldLink RX7 50 "GhostracerModel" "car" "[I", .fieldLink RX7 53 "GhostracerModel" "ghost" "[I", .fieldLink RX7 56 "GhostracerModel" "round" "[I", .methodLink RX7 131 yX7_isNoLap, .instanceMethod yX7_isNoLap, .selects RX7 yX7_isNoLap yX7_isNoLap, .initialized RX7, .code yX7_isNoLap cX7_isNoLap 2 (some .boolean), .fieldLink RX7 86 "GhostracerModel" "laps" "I", .methodLink RX7 79 yX7_in, .static yX7_in, .code yX7_in cX7_in 3 (some .boolean), .methodLink RX7 89 yX7_fails, .instanceMethod yX7_fails, .selects RX7 yX7_fails yX7_fails, .code yX7_fails cX7_fails 2 (some .boolean), .fieldLink RX7 72 "GhostracerModel" "code" "I"] ++ wsX70)
def wsX7_beats : List Cond := .code yX7_beats cX7_beats 2 (some .boolean) :: ([.fieldLink RX7 53 "GhostracerModel" "ghost" "[I", .methodLink RX7 131 yX7_isNoLap, .instanceMethod yX7_isNoLap, .selects RX7 yX7_isNoLap yX7_isNoLap, .initialized RX7, .code yX7_isNoLap cX7_isNoLap 2 (some .boolean), .fieldLink RX7 86 "GhostracerModel" "laps" "I", .methodLink RX7 79 yX7_in, .static yX7_in, .code yX7_in cX7_in 3 (some .boolean), .methodLink RX7 89 yX7_fails, .instanceMethod yX7_fails, .selects RX7 yX7_fails yX7_fails, .code yX7_fails cX7_fails 2 (some .boolean), .fieldLink RX7 72 "GhostracerModel" "code" "I", .methodLink RX7 156 yX7_countOf, .instanceMethod yX7_countOf, .selects RX7 yX7_countOf yX7_countOf, .code yX7_countOf cX7_countOf 2 (some .int), .fieldLink RX7 38 "GhostracerModel" "time" "[I", .fieldLink RX7 41 "GhostracerModel" "penalty" "[I"] ++ wsX70)
def wsX7_least : List Cond := .code yX7_least cX7_least 5 (some .int) :: ([.fieldLink RX7 86 "GhostracerModel" "laps" "I", .fieldLink RX7 47 "GhostracerModel" "track" "[I", .fieldLink RX7 62 "GhostracerModel" "isOut" "[Z", .methodLink RX7 156 yX7_countOf, .instanceMethod yX7_countOf, .selects RX7 yX7_countOf yX7_countOf, .initialized RX7, .code yX7_countOf cX7_countOf 2 (some .int), .fieldLink RX7 38 "GhostracerModel" "time" "[I", .fieldLink RX7 41 "GhostracerModel" "penalty" "[I", .methodLink RX7 93 yX7_isNoTrack, .instanceMethod yX7_isNoTrack, .selects RX7 yX7_isNoTrack yX7_isNoTrack, .code yX7_isNoTrack cX7_isNoTrack 2 (some .boolean), .fieldLink RX7 76 "GhostracerModel" "tracks" "I", .methodLink RX7 79 yX7_in, .static yX7_in, .code yX7_in cX7_in 3 (some .boolean), .methodLink RX7 89 yX7_fails, .instanceMethod yX7_fails, .selects RX7 yX7_fails yX7_fails, .code yX7_fails cX7_fails 2 (some .boolean), .fieldLink RX7 72 "GhostracerModel" "code" "I"] ++ wsX70)
def wsX7_partsOf : List Cond := .code yX7_partsOf cX7_partsOf 4 (some .int) :: ([.fieldLink RX7 59 "GhostracerModel" "base" "[I", .fieldLink RX7 35 "GhostracerModel" "ticks" "[I", .fieldLink RX7 32 "GhostracerModel" "input" "[C"] ++ wsX70)
def wsX7_base : List Cond := .code yX7_base cX7_base 2 (some .int) :: ([.fieldLink RX7 59 "GhostracerModel" "base" "[I", .methodLink RX7 131 yX7_isNoLap, .instanceMethod yX7_isNoLap, .selects RX7 yX7_isNoLap yX7_isNoLap, .initialized RX7, .code yX7_isNoLap cX7_isNoLap 2 (some .boolean), .fieldLink RX7 86 "GhostracerModel" "laps" "I", .methodLink RX7 79 yX7_in, .static yX7_in, .code yX7_in cX7_in 3 (some .boolean), .methodLink RX7 89 yX7_fails, .instanceMethod yX7_fails, .selects RX7 yX7_fails yX7_fails, .code yX7_fails cX7_fails 2 (some .boolean), .fieldLink RX7 72 "GhostracerModel" "code" "I"] ++ wsX70)
def wsX7_depth : List Cond := .code yX7_depth cX7_depth 2 (some .int) :: ([.methodLink RX7 131 yX7_isNoLap, .instanceMethod yX7_isNoLap, .selects RX7 yX7_isNoLap yX7_isNoLap, .initialized RX7, .code yX7_isNoLap cX7_isNoLap 2 (some .boolean), .fieldLink RX7 86 "GhostracerModel" "laps" "I", .methodLink RX7 79 yX7_in, .static yX7_in, .code yX7_in cX7_in 3 (some .boolean), .methodLink RX7 89 yX7_fails, .instanceMethod yX7_fails, .selects RX7 yX7_fails yX7_fails, .code yX7_fails cX7_fails 2 (some .boolean), .fieldLink RX7 72 "GhostracerModel" "code" "I", .methodLink RX7 153 yX7_depthOf, .instanceMethod yX7_depthOf, .selects RX7 yX7_depthOf yX7_depthOf, .code yX7_depthOf cX7_depthOf 4 (some .int), .fieldLink RX7 59 "GhostracerModel" "base" "[I"] ++ wsX70)
def wsX7_parts : List Cond := .code yX7_parts cX7_parts 2 (some .int) :: ([.methodLink RX7 131 yX7_isNoLap, .instanceMethod yX7_isNoLap, .selects RX7 yX7_isNoLap yX7_isNoLap, .initialized RX7, .code yX7_isNoLap cX7_isNoLap 2 (some .boolean), .fieldLink RX7 86 "GhostracerModel" "laps" "I", .methodLink RX7 79 yX7_in, .static yX7_in, .code yX7_in cX7_in 3 (some .boolean), .methodLink RX7 89 yX7_fails, .instanceMethod yX7_fails, .selects RX7 yX7_fails yX7_fails, .code yX7_fails cX7_fails 2 (some .boolean), .fieldLink RX7 72 "GhostracerModel" "code" "I", .methodLink RX7 159 yX7_partsOf, .instanceMethod yX7_partsOf, .selects RX7 yX7_partsOf yX7_partsOf, .code yX7_partsOf cX7_partsOf 4 (some .int), .fieldLink RX7 59 "GhostracerModel" "base" "[I", .fieldLink RX7 35 "GhostracerModel" "ticks" "[I", .fieldLink RX7 32 "GhostracerModel" "input" "[C"] ++ wsX70)
def wsX7_allParts : List Cond := .code yX7_allParts cX7_allParts 3 (some .int) :: ([.fieldLink RX7 86 "GhostracerModel" "laps" "I", .methodLink RX7 159 yX7_partsOf, .instanceMethod yX7_partsOf, .selects RX7 yX7_partsOf yX7_partsOf, .initialized RX7, .code yX7_partsOf cX7_partsOf 4 (some .int), .fieldLink RX7 59 "GhostracerModel" "base" "[I", .fieldLink RX7 35 "GhostracerModel" "ticks" "[I", .fieldLink RX7 32 "GhostracerModel" "input" "[C"] ++ wsX70)
def wsX7_stored : List Cond := .code yX7_stored cX7_stored 1 (some .int) :: ([.fieldLink RX7 72 "GhostracerModel" "code" "I", .methodLink RX7 162 yX7_allParts, .instanceMethod yX7_allParts, .selects RX7 yX7_allParts yX7_allParts, .initialized RX7, .code yX7_allParts cX7_allParts 3 (some .int), .fieldLink RX7 86 "GhostracerModel" "laps" "I", .methodLink RX7 159 yX7_partsOf, .instanceMethod yX7_partsOf, .selects RX7 yX7_partsOf yX7_partsOf, .code yX7_partsOf cX7_partsOf 4 (some .int), .fieldLink RX7 59 "GhostracerModel" "base" "[I", .fieldLink RX7 35 "GhostracerModel" "ticks" "[I", .fieldLink RX7 32 "GhostracerModel" "input" "[C"] ++ wsX70)
def wsX7_rests : List Cond := .code yX7_rests cX7_rests 4 (some .boolean) :: ([.fieldLink RX7 59 "GhostracerModel" "base" "[I"] ++ wsX70)
def wsX7_resting : List Cond := .code yX7_resting cX7_resting 4 (some .int) :: ([.fieldLink RX7 86 "GhostracerModel" "laps" "I", .methodLink RX7 131 yX7_isNoLap, .instanceMethod yX7_isNoLap, .selects RX7 yX7_isNoLap yX7_isNoLap, .initialized RX7, .code yX7_isNoLap cX7_isNoLap 2 (some .boolean), .methodLink RX7 79 yX7_in, .static yX7_in, .code yX7_in cX7_in 3 (some .boolean), .methodLink RX7 89 yX7_fails, .instanceMethod yX7_fails, .selects RX7 yX7_fails yX7_fails, .code yX7_fails cX7_fails 2 (some .boolean), .fieldLink RX7 72 "GhostracerModel" "code" "I", .methodLink RX7 166 yX7_rests, .instanceMethod yX7_rests, .selects RX7 yX7_rests yX7_rests, .code yX7_rests cX7_rests 4 (some .boolean), .fieldLink RX7 59 "GhostracerModel" "base" "[I"] ++ wsX70)
def wsX7_strike : List Cond := .code yX7_strike cX7_strike 4 (some .int) :: ([.fieldLink RX7 62 "GhostracerModel" "isOut" "[Z", .fieldLink RX7 86 "GhostracerModel" "laps" "I", .fieldLink RX7 59 "GhostracerModel" "base" "[I", .methodLink RX7 131 yX7_isNoLap, .instanceMethod yX7_isNoLap, .selects RX7 yX7_isNoLap yX7_isNoLap, .initialized RX7, .code yX7_isNoLap cX7_isNoLap 2 (some .boolean), .methodLink RX7 79 yX7_in, .static yX7_in, .code yX7_in cX7_in 3 (some .boolean), .methodLink RX7 89 yX7_fails, .instanceMethod yX7_fails, .selects RX7 yX7_fails yX7_fails, .code yX7_fails cX7_fails 2 (some .boolean), .fieldLink RX7 72 "GhostracerModel" "code" "I"] ++ wsX70)
def wsX7_giveBack : List Cond := .code yX7_giveBack cX7_giveBack 4 (some .int) :: ([.fieldLink RX7 62 "GhostracerModel" "isOut" "[Z", .fieldLink RX7 86 "GhostracerModel" "laps" "I", .methodLink RX7 131 yX7_isNoLap, .instanceMethod yX7_isNoLap, .selects RX7 yX7_isNoLap yX7_isNoLap, .initialized RX7, .code yX7_isNoLap cX7_isNoLap 2 (some .boolean), .methodLink RX7 79 yX7_in, .static yX7_in, .code yX7_in cX7_in 3 (some .boolean), .methodLink RX7 89 yX7_fails, .instanceMethod yX7_fails, .selects RX7 yX7_fails yX7_fails, .code yX7_fails cX7_fails 2 (some .boolean), .fieldLink RX7 72 "GhostracerModel" "code" "I"] ++ wsX70)
def wsX7_stands : List Cond := .code yX7_stands cX7_stands 2 (some .boolean) :: ([.fieldLink RX7 62 "GhostracerModel" "isOut" "[Z", .methodLink RX7 131 yX7_isNoLap, .instanceMethod yX7_isNoLap, .selects RX7 yX7_isNoLap yX7_isNoLap, .initialized RX7, .code yX7_isNoLap cX7_isNoLap 2 (some .boolean), .fieldLink RX7 86 "GhostracerModel" "laps" "I", .methodLink RX7 79 yX7_in, .static yX7_in, .code yX7_in cX7_in 3 (some .boolean), .methodLink RX7 89 yX7_fails, .instanceMethod yX7_fails, .selects RX7 yX7_fails yX7_fails, .code yX7_fails cX7_fails 2 (some .boolean), .fieldLink RX7 72 "GhostracerModel" "code" "I"] ++ wsX70)
def wsX7_penalty : List Cond := .code yX7_penalty cX7_penalty 4 (some .int) :: ([.fieldLink RX7 41 "GhostracerModel" "penalty" "[I", .methodLink RX7 131 yX7_isNoLap, .instanceMethod yX7_isNoLap, .selects RX7 yX7_isNoLap yX7_isNoLap, .initialized RX7, .code yX7_isNoLap cX7_isNoLap 2 (some .boolean), .fieldLink RX7 86 "GhostracerModel" "laps" "I", .methodLink RX7 79 yX7_in, .static yX7_in, .code yX7_in cX7_in 3 (some .boolean), .methodLink RX7 89 yX7_fails, .instanceMethod yX7_fails, .selects RX7 yX7_fails yX7_fails, .code yX7_fails cX7_fails 2 (some .boolean), .fieldLink RX7 72 "GhostracerModel" "code" "I"] ++ wsX70)
def wsX7_round : List Cond := .code yX7_round cX7_round 2 (some .int) :: ([.fieldLink RX7 150 "GhostracerModel" "rounds" "I", .fieldLink RX7 66 "GhostracerModel" "roundTrack" "[I", .fieldLink RX7 147 "GhostracerModel" "isOpen" "Z", .methodLink RX7 93 yX7_isNoTrack, .instanceMethod yX7_isNoTrack, .selects RX7 yX7_isNoTrack yX7_isNoTrack, .initialized RX7, .code yX7_isNoTrack cX7_isNoTrack 2 (some .boolean), .fieldLink RX7 76 "GhostracerModel" "tracks" "I", .methodLink RX7 79 yX7_in, .static yX7_in, .code yX7_in cX7_in 3 (some .boolean), .methodLink RX7 89 yX7_fails, .instanceMethod yX7_fails, .selects RX7 yX7_fails yX7_fails, .code yX7_fails cX7_fails 2 (some .boolean), .fieldLink RX7 72 "GhostracerModel" "code" "I"] ++ wsX70)
def wsX7_shut : List Cond := .code yX7_shut cX7_shut 1 (some .int) :: ([.fieldLink RX7 147 "GhostracerModel" "isOpen" "Z", .fieldLink RX7 150 "GhostracerModel" "rounds" "I", .methodLink RX7 89 yX7_fails, .instanceMethod yX7_fails, .selects RX7 yX7_fails yX7_fails, .initialized RX7, .code yX7_fails cX7_fails 2 (some .boolean), .fieldLink RX7 72 "GhostracerModel" "code" "I"] ++ wsX70)
def wsX7_lapNow : List Cond := .code yX7_lapNow cX7_lapNow 6 (some .int) :: ([.fieldLink RX7 86 "GhostracerModel" "laps" "I", .fieldLink RX7 56 "GhostracerModel" "round" "[I", .fieldLink RX7 44 "GhostracerModel" "driver" "[I", .fieldLink RX7 62 "GhostracerModel" "isOut" "[Z", .methodLink RX7 156 yX7_countOf, .instanceMethod yX7_countOf, .selects RX7 yX7_countOf yX7_countOf, .initialized RX7, .code yX7_countOf cX7_countOf 2 (some .int), .fieldLink RX7 38 "GhostracerModel" "time" "[I", .fieldLink RX7 41 "GhostracerModel" "penalty" "[I"] ++ wsX70)
def wsX7_isNoSeat : List Cond := .code yX7_isNoSeat cX7_isNoSeat 3 (some .boolean) :: ([.fieldLink RX7 150 "GhostracerModel" "rounds" "I", .methodLink RX7 79 yX7_in, .static yX7_in, .initialized RX7, .code yX7_in cX7_in 3 (some .boolean)] ++ wsX70)
def wsX7_lapIn_r1 : List Cond := [Cond.methodLink RX7 169 yX7_lapNow, Cond.instanceMethod yX7_lapNow, Cond.selects RX7 yX7_lapNow yX7_lapNow, Cond.initialized RX7, Cond.code yX7_lapNow cX7_lapNow 6 (some .int), Cond.fieldLink RX7 86 "GhostracerModel" "laps" "I", Cond.fieldLink RX7 56 "GhostracerModel" "round" "[I", Cond.fieldLink RX7 44 "GhostracerModel" "driver" "[I", Cond.fieldLink RX7 62 "GhostracerModel" "isOut" "[Z", Cond.methodLink RX7 156 yX7_countOf, Cond.instanceMethod yX7_countOf, Cond.selects RX7 yX7_countOf yX7_countOf, Cond.code yX7_countOf cX7_countOf 2 (some .int), Cond.fieldLink RX7 38 "GhostracerModel" "time" "[I", Cond.fieldLink RX7 41 "GhostracerModel" "penalty" "[I", Cond.methodLink RX7 172 yX7_isNoSeat, Cond.instanceMethod yX7_isNoSeat, Cond.selects RX7 yX7_isNoSeat yX7_isNoSeat, Cond.code yX7_isNoSeat cX7_isNoSeat 3 (some .boolean), Cond.fieldLink RX7 150 "GhostracerModel" "rounds" "I", Cond.methodLink RX7 79 yX7_in, Cond.static yX7_in, Cond.code yX7_in cX7_in 3 (some .boolean), Cond.methodLink RX7 89 yX7_fails]
def wsX7_lapIn_r2 : List Cond := [Cond.instanceMethod yX7_fails, Cond.selects RX7 yX7_fails yX7_fails, Cond.code yX7_fails cX7_fails 2 (some .boolean), Cond.fieldLink RX7 72 "GhostracerModel" "code" "I"]
def wsX7_lapIn : List Cond := .code yX7_lapIn cX7_lapIn 4 (some .int) :: ((wsX7_lapIn_r1 ++ wsX7_lapIn_r2) ++ wsX70)
def wsX7_placeNow : List Cond := .code yX7_placeNow cX7_placeNow 7 (some .int) :: ([.methodLink RX7 169 yX7_lapNow, .instanceMethod yX7_lapNow, .selects RX7 yX7_lapNow yX7_lapNow, .initialized RX7, .code yX7_lapNow cX7_lapNow 6 (some .int), .fieldLink RX7 86 "GhostracerModel" "laps" "I", .fieldLink RX7 56 "GhostracerModel" "round" "[I", .fieldLink RX7 44 "GhostracerModel" "driver" "[I", .fieldLink RX7 62 "GhostracerModel" "isOut" "[Z", .methodLink RX7 156 yX7_countOf, .instanceMethod yX7_countOf, .selects RX7 yX7_countOf yX7_countOf, .code yX7_countOf cX7_countOf 2 (some .int), .fieldLink RX7 38 "GhostracerModel" "time" "[I", .fieldLink RX7 41 "GhostracerModel" "penalty" "[I"] ++ wsX70)
def wsX7_placeIn_r1 : List Cond := [Cond.methodLink RX7 172 yX7_isNoSeat, Cond.instanceMethod yX7_isNoSeat, Cond.selects RX7 yX7_isNoSeat yX7_isNoSeat, Cond.initialized RX7, Cond.code yX7_isNoSeat cX7_isNoSeat 3 (some .boolean), Cond.fieldLink RX7 150 "GhostracerModel" "rounds" "I", Cond.methodLink RX7 79 yX7_in, Cond.static yX7_in, Cond.code yX7_in cX7_in 3 (some .boolean), Cond.methodLink RX7 175 yX7_placeNow, Cond.instanceMethod yX7_placeNow, Cond.selects RX7 yX7_placeNow yX7_placeNow, Cond.code yX7_placeNow cX7_placeNow 7 (some .int), Cond.methodLink RX7 169 yX7_lapNow, Cond.instanceMethod yX7_lapNow, Cond.selects RX7 yX7_lapNow yX7_lapNow, Cond.code yX7_lapNow cX7_lapNow 6 (some .int), Cond.fieldLink RX7 86 "GhostracerModel" "laps" "I", Cond.fieldLink RX7 56 "GhostracerModel" "round" "[I", Cond.fieldLink RX7 44 "GhostracerModel" "driver" "[I", Cond.fieldLink RX7 62 "GhostracerModel" "isOut" "[Z", Cond.methodLink RX7 156 yX7_countOf, Cond.instanceMethod yX7_countOf, Cond.selects RX7 yX7_countOf yX7_countOf]
def wsX7_placeIn_r2 : List Cond := [Cond.code yX7_countOf cX7_countOf 2 (some .int), Cond.fieldLink RX7 38 "GhostracerModel" "time" "[I", Cond.fieldLink RX7 41 "GhostracerModel" "penalty" "[I", Cond.methodLink RX7 89 yX7_fails, Cond.instanceMethod yX7_fails, Cond.selects RX7 yX7_fails yX7_fails, Cond.code yX7_fails cX7_fails 2 (some .boolean), Cond.fieldLink RX7 72 "GhostracerModel" "code" "I"]
def wsX7_placeIn : List Cond := .code yX7_placeIn cX7_placeIn 4 (some .int) :: ((wsX7_placeIn_r1 ++ wsX7_placeIn_r2) ++ wsX70)
def wsX7_drop : List Cond := .code yX7_drop cX7_drop 3 (some .int) :: ([.fieldLink RX7 178 "GhostracerModel" "dropped" "I", .methodLink RX7 79 yX7_in, .static yX7_in, .initialized RX7, .code yX7_in cX7_in 3 (some .boolean), .methodLink RX7 89 yX7_fails, .instanceMethod yX7_fails, .selects RX7 yX7_fails yX7_fails, .code yX7_fails cX7_fails 2 (some .boolean), .fieldLink RX7 72 "GhostracerModel" "code" "I"] ++ wsX70)
def wsX7_worth : List Cond := .code yX7_worth cX7_worth 1 (some .int) :: ([])
def wsX7_pointsOf_r1 : List Cond := [Cond.fieldLink RX7 150 "GhostracerModel" "rounds" "I", Cond.fieldLink RX7 69 "GhostracerModel" "counted" "[I", Cond.fieldLink RX7 178 "GhostracerModel" "dropped" "I", Cond.methodLink RX7 175 yX7_placeNow, Cond.instanceMethod yX7_placeNow, Cond.selects RX7 yX7_placeNow yX7_placeNow, Cond.initialized RX7, Cond.code yX7_placeNow cX7_placeNow 7 (some .int), Cond.methodLink RX7 169 yX7_lapNow, Cond.instanceMethod yX7_lapNow, Cond.selects RX7 yX7_lapNow yX7_lapNow, Cond.code yX7_lapNow cX7_lapNow 6 (some .int), Cond.fieldLink RX7 86 "GhostracerModel" "laps" "I", Cond.fieldLink RX7 56 "GhostracerModel" "round" "[I", Cond.fieldLink RX7 44 "GhostracerModel" "driver" "[I", Cond.fieldLink RX7 62 "GhostracerModel" "isOut" "[Z", Cond.methodLink RX7 156 yX7_countOf, Cond.instanceMethod yX7_countOf, Cond.selects RX7 yX7_countOf yX7_countOf, Cond.code yX7_countOf cX7_countOf 2 (some .int), Cond.fieldLink RX7 38 "GhostracerModel" "time" "[I", Cond.fieldLink RX7 41 "GhostracerModel" "penalty" "[I", Cond.methodLink RX7 181 yX7_worth, Cond.static yX7_worth]
def wsX7_pointsOf_r2 : List Cond := [Cond.code yX7_worth cX7_worth 1 (some .int)]
def wsX7_pointsOf : List Cond := .code yX7_pointsOf cX7_pointsOf 6 (some .int) :: ((wsX7_pointsOf_r1 ++ wsX7_pointsOf_r2) ++ wsX70)
def wsX7_winsOf : List Cond := .code yX7_winsOf cX7_winsOf 4 (some .int) :: ([.fieldLink RX7 150 "GhostracerModel" "rounds" "I", .methodLink RX7 175 yX7_placeNow, .instanceMethod yX7_placeNow, .selects RX7 yX7_placeNow yX7_placeNow, .initialized RX7, .code yX7_placeNow cX7_placeNow 7 (some .int), .methodLink RX7 169 yX7_lapNow, .instanceMethod yX7_lapNow, .selects RX7 yX7_lapNow yX7_lapNow, .code yX7_lapNow cX7_lapNow 6 (some .int), .fieldLink RX7 86 "GhostracerModel" "laps" "I", .fieldLink RX7 56 "GhostracerModel" "round" "[I", .fieldLink RX7 44 "GhostracerModel" "driver" "[I", .fieldLink RX7 62 "GhostracerModel" "isOut" "[Z", .methodLink RX7 156 yX7_countOf, .instanceMethod yX7_countOf, .selects RX7 yX7_countOf yX7_countOf, .code yX7_countOf cX7_countOf 2 (some .int), .fieldLink RX7 38 "GhostracerModel" "time" "[I", .fieldLink RX7 41 "GhostracerModel" "penalty" "[I"] ++ wsX70)
def wsX7_isNoDriver : List Cond := .code yX7_isNoDriver cX7_isNoDriver 1 (some .boolean) :: ([.methodLink RX7 79 yX7_in, .static yX7_in, .initialized RX7, .code yX7_in cX7_in 3 (some .boolean)])
def wsX7_points_r1 : List Cond := [Cond.methodLink RX7 184 yX7_isNoDriver, Cond.static yX7_isNoDriver, Cond.initialized RX7, Cond.code yX7_isNoDriver cX7_isNoDriver 1 (some .boolean), Cond.methodLink RX7 79 yX7_in, Cond.static yX7_in, Cond.code yX7_in cX7_in 3 (some .boolean), Cond.methodLink RX7 89 yX7_fails, Cond.instanceMethod yX7_fails, Cond.selects RX7 yX7_fails yX7_fails, Cond.code yX7_fails cX7_fails 2 (some .boolean), Cond.fieldLink RX7 72 "GhostracerModel" "code" "I", Cond.methodLink RX7 187 yX7_pointsOf, Cond.instanceMethod yX7_pointsOf, Cond.selects RX7 yX7_pointsOf yX7_pointsOf, Cond.code yX7_pointsOf cX7_pointsOf 6 (some .int), Cond.fieldLink RX7 150 "GhostracerModel" "rounds" "I", Cond.fieldLink RX7 69 "GhostracerModel" "counted" "[I", Cond.fieldLink RX7 178 "GhostracerModel" "dropped" "I", Cond.methodLink RX7 175 yX7_placeNow, Cond.instanceMethod yX7_placeNow, Cond.selects RX7 yX7_placeNow yX7_placeNow, Cond.code yX7_placeNow cX7_placeNow 7 (some .int), Cond.methodLink RX7 169 yX7_lapNow]
def wsX7_points_r2 : List Cond := [Cond.instanceMethod yX7_lapNow, Cond.selects RX7 yX7_lapNow yX7_lapNow, Cond.code yX7_lapNow cX7_lapNow 6 (some .int), Cond.fieldLink RX7 86 "GhostracerModel" "laps" "I", Cond.fieldLink RX7 56 "GhostracerModel" "round" "[I", Cond.fieldLink RX7 44 "GhostracerModel" "driver" "[I", Cond.fieldLink RX7 62 "GhostracerModel" "isOut" "[Z", Cond.methodLink RX7 156 yX7_countOf, Cond.instanceMethod yX7_countOf, Cond.selects RX7 yX7_countOf yX7_countOf, Cond.code yX7_countOf cX7_countOf 2 (some .int), Cond.fieldLink RX7 38 "GhostracerModel" "time" "[I", Cond.fieldLink RX7 41 "GhostracerModel" "penalty" "[I", Cond.methodLink RX7 181 yX7_worth, Cond.static yX7_worth, Cond.code yX7_worth cX7_worth 1 (some .int)]
def wsX7_points : List Cond := .code yX7_points cX7_points 2 (some .int) :: ((wsX7_points_r1 ++ wsX7_points_r2) ++ wsX70)
def wsX7_wins_r1 : List Cond := [Cond.methodLink RX7 184 yX7_isNoDriver, Cond.static yX7_isNoDriver, Cond.initialized RX7, Cond.code yX7_isNoDriver cX7_isNoDriver 1 (some .boolean), Cond.methodLink RX7 79 yX7_in, Cond.static yX7_in, Cond.code yX7_in cX7_in 3 (some .boolean), Cond.methodLink RX7 89 yX7_fails, Cond.instanceMethod yX7_fails, Cond.selects RX7 yX7_fails yX7_fails, Cond.code yX7_fails cX7_fails 2 (some .boolean), Cond.fieldLink RX7 72 "GhostracerModel" "code" "I", Cond.methodLink RX7 190 yX7_winsOf, Cond.instanceMethod yX7_winsOf, Cond.selects RX7 yX7_winsOf yX7_winsOf, Cond.code yX7_winsOf cX7_winsOf 4 (some .int), Cond.fieldLink RX7 150 "GhostracerModel" "rounds" "I", Cond.methodLink RX7 175 yX7_placeNow, Cond.instanceMethod yX7_placeNow, Cond.selects RX7 yX7_placeNow yX7_placeNow, Cond.code yX7_placeNow cX7_placeNow 7 (some .int), Cond.methodLink RX7 169 yX7_lapNow, Cond.instanceMethod yX7_lapNow, Cond.selects RX7 yX7_lapNow yX7_lapNow]
def wsX7_wins_r2 : List Cond := [Cond.code yX7_lapNow cX7_lapNow 6 (some .int), Cond.fieldLink RX7 86 "GhostracerModel" "laps" "I", Cond.fieldLink RX7 56 "GhostracerModel" "round" "[I", Cond.fieldLink RX7 44 "GhostracerModel" "driver" "[I", Cond.fieldLink RX7 62 "GhostracerModel" "isOut" "[Z", Cond.methodLink RX7 156 yX7_countOf, Cond.instanceMethod yX7_countOf, Cond.selects RX7 yX7_countOf yX7_countOf, Cond.code yX7_countOf cX7_countOf 2 (some .int), Cond.fieldLink RX7 38 "GhostracerModel" "time" "[I", Cond.fieldLink RX7 41 "GhostracerModel" "penalty" "[I"]
def wsX7_wins : List Cond := .code yX7_wins cX7_wins 2 (some .int) :: ((wsX7_wins_r1 ++ wsX7_wins_r2) ++ wsX70)
def wsX7_standing_r1 : List Cond := [Cond.methodLink RX7 184 yX7_isNoDriver, Cond.static yX7_isNoDriver, Cond.initialized RX7, Cond.code yX7_isNoDriver cX7_isNoDriver 1 (some .boolean), Cond.methodLink RX7 79 yX7_in, Cond.static yX7_in, Cond.code yX7_in cX7_in 3 (some .boolean), Cond.methodLink RX7 89 yX7_fails, Cond.instanceMethod yX7_fails, Cond.selects RX7 yX7_fails yX7_fails, Cond.code yX7_fails cX7_fails 2 (some .boolean), Cond.fieldLink RX7 72 "GhostracerModel" "code" "I", Cond.methodLink RX7 187 yX7_pointsOf, Cond.instanceMethod yX7_pointsOf, Cond.selects RX7 yX7_pointsOf yX7_pointsOf, Cond.code yX7_pointsOf cX7_pointsOf 6 (some .int), Cond.fieldLink RX7 150 "GhostracerModel" "rounds" "I", Cond.fieldLink RX7 69 "GhostracerModel" "counted" "[I", Cond.fieldLink RX7 178 "GhostracerModel" "dropped" "I", Cond.methodLink RX7 175 yX7_placeNow, Cond.instanceMethod yX7_placeNow, Cond.selects RX7 yX7_placeNow yX7_placeNow, Cond.code yX7_placeNow cX7_placeNow 7 (some .int), Cond.methodLink RX7 169 yX7_lapNow]
def wsX7_standing_r2 : List Cond := [Cond.instanceMethod yX7_lapNow, Cond.selects RX7 yX7_lapNow yX7_lapNow, Cond.code yX7_lapNow cX7_lapNow 6 (some .int), Cond.fieldLink RX7 86 "GhostracerModel" "laps" "I", Cond.fieldLink RX7 56 "GhostracerModel" "round" "[I", Cond.fieldLink RX7 44 "GhostracerModel" "driver" "[I", Cond.fieldLink RX7 62 "GhostracerModel" "isOut" "[Z", Cond.methodLink RX7 156 yX7_countOf, Cond.instanceMethod yX7_countOf, Cond.selects RX7 yX7_countOf yX7_countOf, Cond.code yX7_countOf cX7_countOf 2 (some .int), Cond.fieldLink RX7 38 "GhostracerModel" "time" "[I", Cond.fieldLink RX7 41 "GhostracerModel" "penalty" "[I", Cond.methodLink RX7 181 yX7_worth, Cond.static yX7_worth, Cond.code yX7_worth cX7_worth 1 (some .int), Cond.methodLink RX7 190 yX7_winsOf, Cond.instanceMethod yX7_winsOf, Cond.selects RX7 yX7_winsOf yX7_winsOf, Cond.code yX7_winsOf cX7_winsOf 4 (some .int)]
def wsX7_standing : List Cond := .code yX7_standing cX7_standing 7 (some .int) :: ((wsX7_standing_r1 ++ wsX7_standing_r2) ++ wsX70)
def wsX7_checksum : List Cond := .code yX7_checksum cX7_checksum 4 (some .long) :: ([.fieldLink RX7 72 "GhostracerModel" "code" "I", .constantLong RX7 193 (7), .fieldLink RX7 86 "GhostracerModel" "laps" "I", .constantLong RX7 195 (31), .fieldLink RX7 38 "GhostracerModel" "time" "[I", .fieldLink RX7 41 "GhostracerModel" "penalty" "[I", .fieldLink RX7 62 "GhostracerModel" "isOut" "[Z", .methodLink RX7 159 yX7_partsOf, .instanceMethod yX7_partsOf, .selects RX7 yX7_partsOf yX7_partsOf, .initialized RX7, .code yX7_partsOf cX7_partsOf 4 (some .int), .fieldLink RX7 59 "GhostracerModel" "base" "[I", .fieldLink RX7 35 "GhostracerModel" "ticks" "[I", .fieldLink RX7 32 "GhostracerModel" "input" "[C"] ++ wsX70)
def wsX7_shareStored : List Cond := .code yX7_shareStored cX7_shareStored 3 (some .float) :: ([.fieldLink RX7 86 "GhostracerModel" "laps" "I", .fieldLink RX7 35 "GhostracerModel" "ticks" "[I", .methodLink RX7 89 yX7_fails, .instanceMethod yX7_fails, .selects RX7 yX7_fails yX7_fails, .initialized RX7, .code yX7_fails cX7_fails 2 (some .boolean), .fieldLink RX7 72 "GhostracerModel" "code" "I", .methodLink RX7 162 yX7_allParts, .instanceMethod yX7_allParts, .selects RX7 yX7_allParts yX7_allParts, .code yX7_allParts cX7_allParts 3 (some .int), .methodLink RX7 159 yX7_partsOf, .instanceMethod yX7_partsOf, .selects RX7 yX7_partsOf yX7_partsOf, .code yX7_partsOf cX7_partsOf 4 (some .int), .fieldLink RX7 59 "GhostracerModel" "base" "[I", .fieldLink RX7 32 "GhostracerModel" "input" "[C"] ++ wsX70)
def wsX7_meanTime : List Cond := .code yX7_meanTime cX7_meanTime 4 (some .double) :: ([.fieldLink RX7 86 "GhostracerModel" "laps" "I", .fieldLink RX7 62 "GhostracerModel" "isOut" "[Z", .methodLink RX7 156 yX7_countOf, .instanceMethod yX7_countOf, .selects RX7 yX7_countOf yX7_countOf, .initialized RX7, .code yX7_countOf cX7_countOf 2 (some .int), .fieldLink RX7 38 "GhostracerModel" "time" "[I", .fieldLink RX7 41 "GhostracerModel" "penalty" "[I", .methodLink RX7 89 yX7_fails, .instanceMethod yX7_fails, .selects RX7 yX7_fails yX7_fails, .code yX7_fails cX7_fails 2 (some .boolean), .fieldLink RX7 72 "GhostracerModel" "code" "I"] ++ wsX70)
def wsX7_isSound : List Cond := .code yX7_isSound cX7_isSound 1 (some .boolean) :: ([.fieldLink RX7 72 "GhostracerModel" "code" "I"] ++ wsX70)
def wsJ9_max_7cf53 : List Cond := .code yJ9_max_7cf53 cJ9_max_7cf53 2 (some .int) :: ([])
def wsJ9_min_7cf53 : List Cond := .code yJ9_min_7cf53 cJ9_min_7cf53 2 (some .int) :: ([])
abbrev vwCl : List vw_C := [(RX0, TX0, 2), (RX1, TX1, 3), (RX2, TX2, 13), (RX3, TX3, 5), (RX4, TX4, 8), (RX5, TX5, 5), (RX6, TX6, 9), (RX7, TX7, 32)]
/-! ===== END printed: names ===== -/
end
section
/-! ===== numbers ===== -/
def iN (z : Int) : Int32 := Int32.ofInt z
def R32 (z : Int) : Prop := -2147483648 ≤ z ∧ z ≤ 2147483647
theorem R32.mk {z : Int} (h1 : -2147483648 ≤ z) (h2 : z ≤ 2147483647) : R32 z := ⟨h1, h2⟩
theorem iN_toInt {z : Int} (h : R32 z) : (iN z).toInt = z := Int32.toInt_ofInt_of_le (by have := h.1; omega) (by have := h.2; omega)
theorem iN_of (x : Int32) : iN x.toInt = x := Int32.ofInt_toInt x
theorem R32_of (x : Int32) : R32 x.toInt := by
  have h1 := Int32.le_toInt x
  have h2 := Int32.toInt_lt x
  exact ⟨by omega, by omega⟩
theorem iN_add (a b : Int) : iN a + iN b = iN (a + b) := (Int32.ofInt_add a b).symm
theorem iN_sub (a b : Int) : iN a - iN b = iN (a - b) := (Int32.ofInt_sub a b).symm
theorem iN_mul (a b : Int) : iN a * iN b = iN (a * b) := (Int32.ofInt_mul a b).symm
theorem iN_lt {a b : Int} (ha : R32 a) (hb : R32 b) : iN a < iN b ↔ a < b := by
  rw [Int32.lt_iff_toInt_lt, iN_toInt ha, iN_toInt hb]
theorem iN_le {a b : Int} (ha : R32 a) (hb : R32 b) : iN a ≤ iN b ↔ a ≤ b := by
  rw [Int32.le_iff_toInt_le, iN_toInt ha, iN_toInt hb]
theorem iN_eq {a b : Int} (ha : R32 a) (hb : R32 b) : iN a = iN b ↔ a = b := by
  rw [← Int32.toInt_inj, iN_toInt ha, iN_toInt hb]
theorem iN_0 : iN 0 = 0 := by decide
theorem R32_0 : R32 0 := ⟨by decide, by decide⟩
theorem iN_clamp {z : Int} (h : R32 z) : (iN z).toNatClampNeg = z.toNat := by
  show (iN z).toInt.toNat = z.toNat
  rw [iN_toInt h]
theorem iN_in {z : Int} {n : Nat} (h0 : 0 ≤ z) (h1 : z < n) (hn : n ≤ 2147483647) : vp_in (iN z) n := by
  rw [vp_in_iff, iN_toInt ⟨by omega, by omega⟩]
  exact ⟨h0, h1⟩
theorem iN_div {a b : Int} (ha : 0 ≤ a) (ha2 : a ≤ 2147483647) (hb : 0 < b) (hb2 : b ≤ 2147483647) : iN a / iN b = iN (a / b) := by
  have h := Int32.ofInt_tdiv (a := a) (b := b) (by show (-2147483648 : Int) ≤ a; omega) (by show a ≤ (2147483647 : Int); omega) (by show (-2147483648 : Int) ≤ b; omega) (by show b ≤ (2147483647 : Int); omega)
  rw [Int.tdiv_eq_ediv_of_nonneg ha] at h
  exact h.symm
theorem iN_bool {z : Int} (h : z = 0 ∨ z = 1) : narrow .boolean (.int (iN z)) = .int (iN z) ∧ fits .boolean (.int (iN z)) = true := by
  rcases h with rfl | rfl <;> exact ⟨rfl, rfl⟩
theorem iN_char {z : Int} (h0 : 0 ≤ z) (h1 : z < 65536) : narrow .char (.int (iN z)) = .int (iN z) ∧ fits .char (.int (iN z)) = true := by
  have e : iN z = nI z.toNat := by
    have : z = (z.toNat : Int) := by omega
    rw [this]
    show Int32.ofInt _ = Int32.ofNat _
    rw [Int32.ofInt_eq_ofNat]
    rfl
  rw [e]
  exact pk_charN (by omega)
def lI (z : Int) : Int64 := Int64.ofInt z
theorem lI_add (a b : Int) : lI a + lI b = lI (a + b) := (Int64.ofInt_add a b).symm
theorem lI_mul (a b : Int) : lI a * lI b = lI (a * b) := (Int64.ofInt_mul a b).symm
theorem iN_l {a : Int} (h : R32 a) : (iN a).toInt64 = lI a := by
  have h1 := h.1
  have h2 := h.2
  exact Int32.toInt64_ofInt (by show (-2147483648 : Int) ≤ a; omega) (by show a ≤ (2147483647 : Int); omega)
theorem lI_eq {a b : Int} (ha : R32 a) (hb : R32 b) : lI a = lI b ↔ a = b := by
  have h1 := ha.1; have h2 := ha.2; have h3 := hb.1; have h4 := hb.2
  constructor
  · intro h
    have := congrArg Int64.toInt h
    rw [show (lI a).toInt = a from Int64.toInt_ofInt_of_le (by omega) (by omega), show (lI b).toInt = b from Int64.toInt_ofInt_of_le (by omega) (by omega)] at this
    exact this
  · rintro rfl; rfl
/-! ===== the world: numbered cells; what each holds ===== -/
abbrev St : Type := (Nat → Nat → Int) × Int × UInt64
abbrev Geo : Type := va_G × (Nat → ClassId) × (Nat → Nat) × Nat × Nat
def gD (g : Geo) : va_G := g.1
def gc (g : Geo) (k : Nat) : ClassId := g.2.1 k
def ga (g : Geo) (n : Nat) : Nat := g.2.2.1 n
def gh (g : Geo) : Nat := g.2.2.2.1
def gp (g : Geo) : Nat := g.2.2.2.2
def gA (g : Geo) : Nat → Prop := fun q => gh g ≤ q
/-- a row with one place changed -/
def ur (f : Nat → Int) (k : Nat) (v : Int) : Nat → Int := fun j => if j = k then v else f j
def sw (σ : St) (n k : Nat) (v : Int) : St := (fun a => if a = n then ur (σ.1 n) k v else σ.1 a, σ.2)
theorem sw_same (σ : St) (n k : Nat) (v : Int) : (sw σ n k v).1 n k = v := by simp [sw, ur]
theorem sw_row (σ : St) (n k : Nat) (v : Int) : (sw σ n k v).1 n = ur (σ.1 n) k v := by simp [sw]
theorem sw_ne {σ : St} {n k a : Nat} {v : Int} (h : a ≠ n) : (sw σ n k v).1 a = σ.1 a := by simp [sw, h]
theorem sw_get (σ : St) (n k : Nat) (v : Int) (a b : Nat) : (sw σ n k v).1 a b = if a = n ∧ b = k then v else σ.1 a b := by
  by_cases ha : a = n
  · subst ha
    by_cases hb : b = k
    · subst hb; simp [sw, ur]
    · simp [sw, ur, hb]
  · simp [sw, ha]
theorem sw_2 (σ : St) (n k : Nat) (v : Int) : (sw σ n k v).2 = σ.2 := rfl
/-- the kind of a cell: 0..7 the objects' classes (vwCl), 8 char[], 9 int[], 10 boolean[], 12 long[], 13 double[], 14 Track[], 15 Car[], 16 Lap[] -/
def kd (n : Nat) : Nat :=
  if n < 7 then (if n = 0 then 6 else if n = 1 then 14 else if n = 2 then 15 else if n = 3 then 8 else if n = 4 then 3 else if n = 5 then 0 else 16)
  else if n < 67 then (if n % 2 = 1 then 2 else 8)
  else if n < 73 then (if n = 67 then 4 else 9)
  else if n < 85 then (if n % 3 = 1 then 5 else 9)
  else if n < 89 then 1
  else if n = 89 then 7
  else if n = 96 then 8 else if n = 97 then 8 else if n = 107 then 10 else if n = 110 then 12 else if n = 111 then 13 else 9
def ln (n : Nat) : Nat :=
  if n < 7 then (if n = 3 then 60 else if n = 6 then 30 else 4)
  else if n < 67 then 60
  else if n < 73 then (if n = 68 then 10 else if n = 70 then 60 else 6)
  else if n < 89 then 12
  else if n < 96 then (if n = 91 then 48 else if n = 92 then 48 else 4)
  else if n = 96 then 60 else if n = 97 then 1800 else if n < 108 then 30 else if n < 110 then 10 else 1
def flds (g : Geo) (f : Nat → Int) (ci n : Nat) : List Value :=
  match ci with
  | 0 => [.ref (ga g 6), .int (iN (f 1))]
  | 1 => [.int (iN (f 0)), .int (iN (f 1)), .int (iN (f 2))]
  | 2 => [.ref (ga g (n + 1)), .int (iN (f 1)), .int (iN (f 2)), .int (iN (f 3)), .int (iN (f 4)), .int (iN (f 5)), .int (iN (f 6)), .int (iN (f 7)), .int (iN (f 8)), .int (iN (f 9)), .int (iN (f 10)), .int (iN (f 11)), .int (iN (f 12))]
  | 3 => [.int (iN (f 0)), .int (iN (f 1)), .int (iN (f 2)), .int (iN (f 3)), .int (iN (f 4))]
  | 4 => [.ref (ga g 68), .int (iN (f 1)), .int (iN (f 2)), .int (iN (f 3)), .ref (ga g 69), .ref (ga g 70), .ref (ga g 71), .ref (ga g 72)]
  | 5 => [.ref (ga g (n + 1)), .ref (ga g (n + 2)), .int (iN (f 2)), .int (iN (f 3)), .int (iN (f 4))]
  | 6 => [.ref (ga g 1), .int (iN (f 1)), .ref (ga g 2), .int (iN (f 3)), .ref (ga g 3), .int (iN (f 5)), .ref (ga g 4), .ref (ga g 5), .ref (ga g 67)]
  | _ => [.int (iN (f 0)), .int (iN (f 1)), .ref (ga g 90), .ref (ga g 91), .ref (ga g 92), .int (iN (f 5)), .ref (ga g 93), .ref (ga g 94), .ref (ga g 95), .int (iN (f 9)), .ref (ga g 96), .int (iN (f 11)), .ref (ga g 97), .ref (ga g 98), .ref (ga g 99), .ref (ga g 100), .ref (ga g 101), .ref (ga g 102), .ref (ga g 103), .ref (ga g 104), .ref (ga g 105), .ref (ga g 106), .ref (ga g 107), .int (iN (f 23)), .int (iN (f 24)), .ref (ga g 108), .int (iN (f 26)), .ref (ga g 109), .int (iN (f 28)), .int (iN (f 29)), .int (iN (f 30)), .int (iN (f 31))]
def cL (g : Geo) (f : Nat → Int) (x : Int × UInt64) (n : Nat) : va_E :=
  if kd n < 8 then .inr (kd n, flds g f (kd n) n)
  else if kd n < 11 then .inl (gc g (kd n), ln n, .inl (fun k => iN (f k)))
  else if kd n = 12 then .inl (gc g 12, 1, .inr (.inl (fun _ => lI x.1)))
  else if kd n = 13 then .inl (gc g 13, 1, .inr (.inr (.inr (.inl (fun _ => x.2)))))
  else if kd n = 14 then .inl (gc g 14, 4, .inr (.inr (.inr (.inr (fun k => some (ga g (73 + 3 * k)))))))
  else if kd n = 15 then .inl (gc g 15, 4, .inr (.inr (.inr (.inr (fun k => some (ga g (85 + k)))))))
  else .inl (gc g 16, 30, .inr (.inr (.inr (.inr (fun k => some (ga g (7 + 2 * k)))))))
def cells (g : Geo) (σ : St) : va_W := (List.range 112).map (fun n => (ga g n, cL g (σ.1 n) σ.2 n))
theorem cells_at {g : Geo} {σ : St} {n : Nat} (h : n < 112) : (cells g σ)[n]? = some (ga g n, cL g (σ.1 n) σ.2 n) := by
  simp [cells, h]
theorem cells_len {g : Geo} {σ : St} : (cells g σ).length = 112 := by simp [cells]
theorem cells_set {g : Geo} {σ : St} {n k : Nat} {v : Int} {e : va_E} (h : n < 112) (he : cL g (ur (σ.1 n) k v) σ.2 n = e) : (cells g σ).set n (ga g n, e) = cells g (sw σ n k v) := by
  subst he
  apply List.ext_getElem?
  intro j
  by_cases hj : j = n
  · subst hj
    rw [List.getElem?_set_self (by rw [cells_len]; exact h), cells_at h, sw_row, sw_2]
  · rw [List.getElem?_set_ne (Ne.symm hj)]
    by_cases hl : j < 112
    · rw [cells_at hl, cells_at hl, sw_ne hj, sw_2]
    · rw [List.getElem?_eq_none (by rw [cells_len]; omega), List.getElem?_eq_none (by rw [cells_len]; omega)]
theorem cells_set2 {g : Geo} {σ : St} {n : Nat} {x : Int × UInt64} {e : va_E} (h : n < 112) (he : cL g (σ.1 n) x n = e) (ho : ∀ m, m < 112 → m ≠ n → cL g (σ.1 m) x m = cL g (σ.1 m) σ.2 m) : (cells g σ).set n (ga g n, e) = cells g (σ.1, x) := by
  subst he
  apply List.ext_getElem?
  intro j
  by_cases hj : j = n
  · subst hj
    rw [List.getElem?_set_self (by rw [cells_len]; exact h), cells_at h]
  · rw [List.getElem?_set_ne (Ne.symm hj)]
    by_cases hl : j < 112
    · rw [cells_at hl, cells_at hl, ho j hl hj]
    · rw [List.getElem?_eq_none (by rw [cells_len]; omega), List.getElem?_eq_none (by rw [cells_len]; omega)]
theorem cL_obj {g : Geo} {f : Nat → Int} {x : Int × UInt64} {n ci : Nat} (h : kd n = ci) (h8 : ci < 8) : cL g f x n = .inr (ci, flds g f ci n) := by
  subst h
  simp [cL, h8]
theorem cL_arr {g : Geo} {f : Nat → Int} {x : Int × UInt64} {n ci N : Nat} (h : kd n = ci) (h8 : ¬ ci < 8) (h11 : ci < 11) (hN : ln n = N) : cL g f x n = .inl (gc g ci, N, .inl (fun k => iN (f k))) := by
  subst h; subst hN
  simp [cL, h8, h11]
theorem cL_14 {g : Geo} {f : Nat → Int} {x : Int × UInt64} {n : Nat} (h : kd n = 14) : cL g f x n = .inl (gc g 14, 4, .inr (.inr (.inr (.inr (fun k => some (ga g (73 + 3 * k))))))) := by simp [cL, h]
theorem cL_15 {g : Geo} {f : Nat → Int} {x : Int × UInt64} {n : Nat} (h : kd n = 15) : cL g f x n = .inl (gc g 15, 4, .inr (.inr (.inr (.inr (fun k => some (ga g (85 + k))))))) := by simp [cL, h]
theorem cL_16 {g : Geo} {f : Nat → Int} {x : Int × UInt64} {n : Nat} (h : kd n = 16) : cL g f x n = .inl (gc g 16, 30, .inr (.inr (.inr (.inr (fun k => some (ga g (7 + 2 * k))))))) := by simp [cL, h]
theorem kd_lap {j : Nat} (h : j < 30) : kd (7 + 2 * j) = 2 := by
  unfold kd
  rw [if_neg (by omega), if_pos (by omega), if_pos (by omega)]
theorem kd_in {j : Nat} (h : j < 30) : kd (7 + 2 * j + 1) = 8 := by
  unfold kd
  rw [if_neg (by omega), if_pos (by omega), if_neg (by omega)]
theorem ln_in {j : Nat} (h : j < 30) : ln (7 + 2 * j + 1) = 60 := by
  unfold ln
  rw [if_neg (by omega), if_pos (by omega)]
theorem kd_tr {t : Nat} (h : t < 4) : kd (73 + 3 * t) = 5 := by
  unfold kd
  rw [if_neg (by omega), if_neg (by omega), if_neg (by omega), if_pos (by omega), if_pos (by omega)]
theorem kd_tr1 {t : Nat} (h : t < 4) : kd (73 + 3 * t + 1) = 9 := by
  unfold kd
  rw [if_neg (by omega), if_neg (by omega), if_neg (by omega), if_pos (by omega), if_neg (by omega)]
theorem kd_tr2 {t : Nat} (h : t < 4) : kd (73 + 3 * t + 2) = 9 := by
  unfold kd
  rw [if_neg (by omega), if_neg (by omega), if_neg (by omega), if_pos (by omega), if_neg (by omega)]
theorem ln_tr1 {t : Nat} (h : t < 4) : ln (73 + 3 * t + 1) = 12 := by
  unfold ln
  rw [if_neg (by omega), if_neg (by omega), if_neg (by omega), if_pos (by omega)]
theorem ln_tr2 {t : Nat} (h : t < 4) : ln (73 + 3 * t + 2) = 12 := by
  unfold ln
  rw [if_neg (by omega), if_neg (by omega), if_neg (by omega), if_pos (by omega)]
theorem kd_car {c : Nat} (h : c < 4) : kd (85 + c) = 1 := by
  unfold kd
  rw [if_neg (by omega), if_neg (by omega), if_neg (by omega), if_neg (by omega), if_pos (by omega)]
/-- what the tables say of the arrays' classes -/
def tys (g : Geo) : List (ClassId × FieldType) := [(gc g 8, .char), (gc g 9, .int), (gc g 10, .boolean), (gc g 12, .long), (gc g 13, .double), (gc g 14, .object RX5), (gc g 15, .object RX1), (gc g 16, .object RX2)]
/-- the cells are apart, and newer than the law's entry -/
def GOK (g : Geo) : Prop := (∀ a b, a < 112 → b < 112 → ga g a = ga g b → a = b) ∧ ∀ a, a < 112 → gh g ≤ ga g a
theorem GOK.D {g : Geo} (h : GOK g) (σ : St) : va_D (gA g) (cells g σ) := by
  have key : ∀ (k : Nat) (q : Nat × va_E), (cells g σ)[k]? = some q → k < 112 ∧ q.1 = ga g k := by
    intro k q hk
    have hl : k < 112 := by
      have := (List.getElem?_eq_some_iff.mp hk).1
      rwa [cells_len] at this
    rw [cells_at hl] at hk
    cases hk
    exact ⟨hl, rfl⟩
  refine ⟨fun i j p q hi hj hpq => ?_, fun k q hk => ?_⟩
  · obtain ⟨a1, a2⟩ := key i p hi
    obtain ⟨b1, b2⟩ := key j q hj
    exact h.1 i j a1 b1 (by rw [← a2, ← b2]; exact hpq)
  · obtain ⟨a1, a2⟩ := key k q hk
    rw [a2]
    exact h.2 k a1
def worthP (j : Nat) : Int := if j = 0 then 10 else if j = 1 then 8 else if j = 2 then 6 else if j = 3 then 5 else if j = 4 then 4 else 3
/-- what stays outside the world: the points' row, the statics and texts that a throw needs -/
def Sta (g : Geo) (U : State) (H : Heap) : Prop :=
  va_Z "Ghostracer" "POINTS" "[I" (.ref (gp g)) (gA g) U H ∧ va_T .int (gp g) 6 (fun j => .int (iN (worthP j))) (gA g) U H ∧
  vx_Zq Bundle.tN "UNASSIGNED_STACK" Bundle.steD (gA g) U H ∧ vx_Zq Bundle.tN "SUPPRESSED_SENTINEL" Bundle.listD (gA g) U H

def texts : List (Nat × String) := [(54, "there are 4 tracks"), (69, "the length or the limit is out of range"), (78, "a lap was driven on the track"), (84, "the track has 12 stretches"), (93, "a number of the car is out of range"), (98, "there are 4 cars"), (111, "no such place"), (118, "no such input, or so often it is not typed"), (123, "more than 60 inputs"), (137, "no such ghost on this track that stands"), (146, "there are 30 laps"), (183, "the track has no stretches"), (192, "the lap would not be over"), (206, "no such input"), (211, "no such tick"), (223, "no such thing of a lap"), (229, "the lap has no ghost"), (234, "no lap of the track stands"), (239, "the lap is stored whole"), (253, "the lap is struck out"), (259, "the lap stands"), (264, "the penalty is out of range"), (272, "there are 10 rounds"), (280, "no round is open"), (291, "no such round"), (302, "the driver has no lap in the round"), (304, "so many rounds are not dropped"), (326, "there are no laps"), (331, "no lap stands"), (333, "no such track"), (335, "no such car"), (337, "no such lap"), (339, "no such driver")]


def WK (g : Geo) (U : State) : Prop := va_K (gD g) vwCl (tys g) U ∧ gh g ≤ U.heap.size ∧ Sta g U U.heap ∧ ∀ q ∈ texts, ∃ a, vk_R "Ghostracer" q.1 q.2 a U
def World (g : Geo) (σ : St) : State → Prop := fun U => va_P (gD g) vwCl (cells g σ) U.heap ∧ WK g U ∧ GOK g
def Bw (g : Geo) (σ : St) : State → Prop := fun t => va_P (gD g) vwCl (cells g σ) t.heap
theorem Sta.kept {g : Geo} {u U : State} {H H1 : Heap} (hvm : u.vm.Alike U.vm) (hq : ∀ a : Nat, a < H.size → ¬ gA g a → H1[a]? = H[a]?) (h : Sta g u H) : Sta g U H1 :=
  ⟨va_Z.moved hvm (h.1.kept hq), va_T.moved hvm (h.2.1.kept hq), vx_Zq.moved hvm (h.2.2.1.kept hq), vx_Zq.moved hvm (h.2.2.2.kept hq)⟩
theorem World.blind {g : Geo} {σ : St} {av : List Value} : FrameBlind (va_Pc av (World g σ)) := by
  intro a U gf mk h
  obtain ⟨h1, h2, ⟨h3, h4, h5, h6⟩, h7⟩ := h
  exact ⟨h1, h2, ⟨va_K.moved (u := U) (U := U.calling gf mk a) (Vm.Alike.refl U.vm) h3, h4, Sta.kept (u := U) (U := U.calling gf mk a) (Vm.Alike.refl U.vm) (fun _ _ _ => rfl) h5, fun q hq => by
    obtain ⟨b, hb⟩ := h6 q hq
    exact ⟨b, vk_R.same (u := U) rfl hb⟩⟩, h7⟩
theorem World.call {g : Geo} {σ : St} {s U : State} {H : Heap} {locs : List Loc} (hk : WK g s) (hg : GOK g) (hP : va_P (gD g) vwCl (cells g σ) H) (hS : va_S (gA g) s.heap H locs) (hU : U.heap = H) (hW : s.WarmedH U.vm) : World g σ U := by
  obtain ⟨h3, h4, h5, h6⟩ := hk
  subst hU
  refine ⟨hP, ⟨va_K.moved hW.alike h3, Nat.le_trans h4 hS.1, Sta.kept hW.alike (fun a h1 h2 => hS.2.1 a h1 h2) h5, fun q hq => ?_⟩, hg⟩
  obtain ⟨b, hb⟩ := h6 q hq
  exact ⟨b, vk_R.warm hW hb⟩
/-! ===== the judgement V: W, with the heap, the written places and the locals' row left open ===== -/
def Cx (g : Geo) (p : Program) (l : Launch) (R : Room) (s : State) (m : MethodId) (args : Array Value) (meth : Method) (c : Code) (cc : ByteArray) (nL : Nat) (own : String) (Ts : List Cond) : Prop :=
  CallFix p m c cc nL s args Ts own ∧ WK g s ∧ GOK g ∧ l.stackTraces = false ∧ meth.locks = false
def V (g : Geo) (p : Program) (l : Launch) (e : Env) (R : Room) (s : State) (m : MethodId) (args : Array Value) (below : List Frame) (meth : Method) (c : Code) (nL : Nat) (k n : Nat) (Q : State → Prop) (σ : St) (pc : Nat) (lv : List (Nat × Value)) (st : List Value) : Prop :=
  ∀ (H : Heap) (locs : List Loc) (ls : Array Slot), va_P (gD g) vwCl (cells g σ) H → va_S (gA g) s.heap H locs → lv_has ls nL lv → W p l e R s m args below meth c H locs k n Q (F0 m pc ls st)
section VR
variable {g : Geo} {p : Program} {l : Launch} {e : Env} {R : Room} {s : State} {m : MethodId} {args : Array Value} {below : List Frame} {meth : Method} {c : Code} {cc : ByteArray} {nL : Nat} {own : String} {Ts : List Cond} {k n : Nat} {Q : State → Prop} {σ : St} {pc : Nat} {lv lv' : List (Nat × Value)} {st : List Value}
theorem V_sub (ks : List Nat) (hl : lv_pick lv ks = lv') (kk : V g p l e R s m args below meth c nL k n Q σ pc lv' st) : V g p l e R s m args below meth c nL k n Q σ pc lv st :=
  fun H locs ls hP hS h => kk H locs ls hP hS (lv_sub h ks hl)
theorem V_st {σ' : St} (h : σ = σ') (kk : V g p l e R s m args below meth c nL k n Q σ' pc lv st) : V g p l e R s m args below meth c nL k n Q σ pc lv st := h ▸ kk
theorem V_widen {k' n' : Nat} (h1 : k ≤ k') (h2 : n ≤ n') (kk : V g p l e R s m args below meth c nL k' n' Q σ pc lv st) : V g p l e R s m args below meth c nL k n Q σ pc lv st :=
  fun H locs ls hP hS h => W.widen h1 h2 (kk H locs ls hP hS h)

theorem V_iconst (X : Cx g p l R s m args meth c cc nL own Ts) {z : Int} (d : decode cc pc = .ok (.iconst z, 1)) (kk : V g p l e R s m args below meth c nL k n Q σ (pc + 1) lv (.int (iN z) :: st)) : V g p l e R s m args below meth c nL k n Q σ pc lv (st) := by
  obtain ⟨⟨hx, hb, hml, hown, hts⟩, hwk, hg, hl9, hlk⟩ := X
  intro H locs ls hP hS hl
  exact lv_iconst hx hb d rfl (kk H locs ls hP hS hl)

theorem V_bipush (X : Cx g p l R s m args meth c cc nL own Ts) {z : Int} (h : (Int8.ofInt z).toInt32 = iN z) (d : decode cc pc = .ok (.bipush z, 2)) (kk : V g p l e R s m args below meth c nL k n Q σ (pc + 2) lv (.int (iN z) :: st)) : V g p l e R s m args below meth c nL k n Q σ pc lv (st) := by
  obtain ⟨⟨hx, hb, hml, hown, hts⟩, hwk, hg, hl9, hlk⟩ := X
  intro H locs ls hP hS hl
  exact lv_bipush hx hb d h (kk H locs ls hP hS hl)

theorem V_sipush (X : Cx g p l R s m args meth c cc nL own Ts) {z : Int} (h : (Int16.ofInt z).toInt32 = iN z) (d : decode cc pc = .ok (.sipush z, 3)) (kk : V g p l e R s m args below meth c nL k n Q σ (pc + 3) lv (.int (iN z) :: st)) : V g p l e R s m args below meth c nL k n Q σ pc lv (st) := by
  obtain ⟨⟨hx, hb, hml, hown, hts⟩, hwk, hg, hl9, hlk⟩ := X
  intro H locs ls hP hS hl
  exact lv_sipush hx hb d h (kk H locs ls hP hS hl)

theorem V_ldc (X : Cx g p l R s m args meth c cc nL own Ts) {i : Nat} {z : Int} {v : Int32} (hc : Jvm.Cond.constant own i v ∈ Ts) (hv : v = iN z) (d : decode cc pc = .ok (.ldc i, 2)) (kk : V g p l e R s m args below meth c nL k n Q σ (pc + 2) lv (.int (iN z) :: st)) : V g p l e R s m args below meth c nL k n Q σ pc lv (st) := by
  obtain ⟨⟨hx, hb, hml, hown, hts⟩, hwk, hg, hl9, hlk⟩ := X
  intro H locs ls hP hS hl
  subst hv
  exact lv_ldc hx hb hown (hts _ hc) d (kk H locs ls hP hS hl)

theorem V_lconst (X : Cx g p l R s m args meth c cc nL own Ts) {i : Fin 2} {z : Int} (hv : Int64.ofNat (i : Nat) = lI z) (d : decode cc pc = .ok (.lconst i, 1)) (kk : V g p l e R s m args below meth c nL k n Q σ (pc + 1) lv (.long (lI z) :: st)) : V g p l e R s m args below meth c nL k n Q σ pc lv (st) := by
  obtain ⟨⟨hx, hb, hml, hown, hts⟩, hwk, hg, hl9, hlk⟩ := X
  intro H locs ls hP hS hl
  exact lv_lconst hx hb d hv (kk H locs ls hP hS hl)

theorem V_ldc2 (X : Cx g p l R s m args meth c cc nL own Ts) {i : Nat} {z : Int} {v : Int64} (hc : Jvm.Cond.constantLong own i v ∈ Ts) (hv : v = lI z) (d : decode cc pc = .ok (.ldc2_w i, 3)) (kk : V g p l e R s m args below meth c nL k n Q σ (pc + 3) lv (.long (lI z) :: st)) : V g p l e R s m args below meth c nL k n Q σ pc lv (st) := by
  obtain ⟨⟨hx, hb, hml, hown, hts⟩, hwk, hg, hl9, hlk⟩ := X
  intro H locs ls hP hS hl
  subst hv
  exact lv_ldc2 hx hb hown (hts _ hc) d (kk H locs ls hP hS hl)

theorem V_iload_n (X : Cx g p l R s m args meth c cc nL own Ts) (j : Nat) {i : Nat} {x : Int32} (hj : lv[j]? = some (i, .int x)) {i4 : Fin 4} (d : decode cc pc = .ok (.iload_n i4, 1)) (hi : (i4 : Nat) = i) (kk : V g p l e R s m args below meth c nL k n Q σ (pc + 1) lv (.int x :: st)) : V g p l e R s m args below meth c nL k n Q σ pc lv (st) := by
  obtain ⟨⟨hx, hb, hml, hown, hts⟩, hwk, hg, hl9, hlk⟩ := X
  intro H locs ls hP hS hl
  exact lv_iload_n hx hb d hi (lv_at hl j hj) (kk H locs ls hP hS hl)

theorem V_iload (X : Cx g p l R s m args meth c cc nL own Ts) (j : Nat) {i : Nat} {x : Int32} (hj : lv[j]? = some (i, .int x)) (d : decode cc pc = .ok (.iload i, 2)) (kk : V g p l e R s m args below meth c nL k n Q σ (pc + 2) lv (.int x :: st)) : V g p l e R s m args below meth c nL k n Q σ pc lv (st) := by
  obtain ⟨⟨hx, hb, hml, hown, hts⟩, hwk, hg, hl9, hlk⟩ := X
  intro H locs ls hP hS hl
  exact lv_iload hx hb d (lv_at hl j hj) (kk H locs ls hP hS hl)

theorem V_istore_n (X : Cx g p l R s m args meth c cc nL own Ts) (lv1 : List (Nat × Value)) {i : Nat} {x : Int32} {i4 : Fin 4} (d : decode cc pc = .ok (.istore_n i4, 1)) (hi : (i4 : Nat) = i) (hn : i < nL) (hq : (i, Value.int x) :: lv.filter (fun q => !(q.1 == i) && !(q.1 + 1 == i && q.2.category == 2)) = lv1) (kk : V g p l e R s m args below meth c nL k n Q σ (pc + 1) lv1 (st)) : V g p l e R s m args below meth c nL k n Q σ pc lv (.int x :: st) := by
  obtain ⟨⟨hx, hb, hml, hown, hts⟩, hwk, hg, hl9, hlk⟩ := X
  intro H locs ls hP hS hl
  exact lv_istore_n hx hb d hi hl hn hq (fun ls1 hl1 => kk H locs ls1 hP hS hl1)

theorem V_istore (X : Cx g p l R s m args meth c cc nL own Ts) (lv1 : List (Nat × Value)) {i : Nat} {x : Int32} (d : decode cc pc = .ok (.istore i, 2)) (hn : i < nL) (hq : (i, Value.int x) :: lv.filter (fun q => !(q.1 == i) && !(q.1 + 1 == i && q.2.category == 2)) = lv1) (kk : V g p l e R s m args below meth c nL k n Q σ (pc + 2) lv1 (st)) : V g p l e R s m args below meth c nL k n Q σ pc lv (.int x :: st) := by
  obtain ⟨⟨hx, hb, hml, hown, hts⟩, hwk, hg, hl9, hlk⟩ := X
  intro H locs ls hP hS hl
  exact lv_istore hx hb d hl hn hq (fun ls1 hl1 => kk H locs ls1 hP hS hl1)

theorem V_aload_n (X : Cx g p l R s m args meth c cc nL own Ts) (j : Nat) {i : Nat} {x : Nat} (hj : lv[j]? = some (i, .ref x)) {i4 : Fin 4} (d : decode cc pc = .ok (.aload_n i4, 1)) (hi : (i4 : Nat) = i) (kk : V g p l e R s m args below meth c nL k n Q σ (pc + 1) lv (.ref x :: st)) : V g p l e R s m args below meth c nL k n Q σ pc lv (st) := by
  obtain ⟨⟨hx, hb, hml, hown, hts⟩, hwk, hg, hl9, hlk⟩ := X
  intro H locs ls hP hS hl
  exact lv_aload_n hx hb d hi (lv_at hl j hj) (kk H locs ls hP hS hl)

theorem V_aload (X : Cx g p l R s m args meth c cc nL own Ts) (j : Nat) {i : Nat} {x : Nat} (hj : lv[j]? = some (i, .ref x)) (d : decode cc pc = .ok (.aload i, 2)) (kk : V g p l e R s m args below meth c nL k n Q σ (pc + 2) lv (.ref x :: st)) : V g p l e R s m args below meth c nL k n Q σ pc lv (st) := by
  obtain ⟨⟨hx, hb, hml, hown, hts⟩, hwk, hg, hl9, hlk⟩ := X
  intro H locs ls hP hS hl
  exact lv_aload hx hb d (lv_at hl j hj) (kk H locs ls hP hS hl)

theorem V_astore_n (X : Cx g p l R s m args meth c cc nL own Ts) (lv1 : List (Nat × Value)) {i : Nat} {x : Nat} {i4 : Fin 4} (d : decode cc pc = .ok (.astore_n i4, 1)) (hi : (i4 : Nat) = i) (hn : i < nL) (hq : (i, Value.ref x) :: lv.filter (fun q => !(q.1 == i) && !(q.1 + 1 == i && q.2.category == 2)) = lv1) (kk : V g p l e R s m args below meth c nL k n Q σ (pc + 1) lv1 (st)) : V g p l e R s m args below meth c nL k n Q σ pc lv (.ref x :: st) := by
  obtain ⟨⟨hx, hb, hml, hown, hts⟩, hwk, hg, hl9, hlk⟩ := X
  intro H locs ls hP hS hl
  exact lv_astore_n hx hb d hi hl hn hq (fun ls1 hl1 => kk H locs ls1 hP hS hl1)

theorem V_astore (X : Cx g p l R s m args meth c cc nL own Ts) (lv1 : List (Nat × Value)) {i : Nat} {x : Nat} (d : decode cc pc = .ok (.astore i, 2)) (hn : i < nL) (hq : (i, Value.ref x) :: lv.filter (fun q => !(q.1 == i) && !(q.1 + 1 == i && q.2.category == 2)) = lv1) (kk : V g p l e R s m args below meth c nL k n Q σ (pc + 2) lv1 (st)) : V g p l e R s m args below meth c nL k n Q σ pc lv (.ref x :: st) := by
  obtain ⟨⟨hx, hb, hml, hown, hts⟩, hwk, hg, hl9, hlk⟩ := X
  intro H locs ls hP hS hl
  exact lv_astore hx hb d hl hn hq (fun ls1 hl1 => kk H locs ls1 hP hS hl1)

theorem V_lload_n (X : Cx g p l R s m args meth c cc nL own Ts) (j : Nat) {i : Nat} {x : Int64} (hj : lv[j]? = some (i, .long x)) {i4 : Fin 4} (d : decode cc pc = .ok (.lload_n i4, 1)) (hi : (i4 : Nat) = i) (kk : V g p l e R s m args below meth c nL k n Q σ (pc + 1) lv (.long x :: st)) : V g p l e R s m args below meth c nL k n Q σ pc lv (st) := by
  obtain ⟨⟨hx, hb, hml, hown, hts⟩, hwk, hg, hl9, hlk⟩ := X
  intro H locs ls hP hS hl
  exact lv_lload_n hx hb d hi (lv_at hl j hj) (kk H locs ls hP hS hl)

theorem V_lload (X : Cx g p l R s m args meth c cc nL own Ts) (j : Nat) {i : Nat} {x : Int64} (hj : lv[j]? = some (i, .long x)) (d : decode cc pc = .ok (.lload i, 2)) (kk : V g p l e R s m args below meth c nL k n Q σ (pc + 2) lv (.long x :: st)) : V g p l e R s m args below meth c nL k n Q σ pc lv (st) := by
  obtain ⟨⟨hx, hb, hml, hown, hts⟩, hwk, hg, hl9, hlk⟩ := X
  intro H locs ls hP hS hl
  exact lv_lload hx hb d (lv_at hl j hj) (kk H locs ls hP hS hl)

theorem V_lstore_n (X : Cx g p l R s m args meth c cc nL own Ts) (lv1 : List (Nat × Value)) {i : Nat} {x : Int64} {i4 : Fin 4} (d : decode cc pc = .ok (.lstore_n i4, 1)) (hi : (i4 : Nat) = i) (hn : i + 1 < nL) (hq : (i, Value.long x) :: lv.filter (fun q => !(q.1 == i) && (!(q.1 == i + 1) && !(q.1 + 1 == i && q.2.category == 2))) = lv1) (kk : V g p l e R s m args below meth c nL k n Q σ (pc + 1) lv1 (st)) : V g p l e R s m args below meth c nL k n Q σ pc lv (.long x :: st) := by
  obtain ⟨⟨hx, hb, hml, hown, hts⟩, hwk, hg, hl9, hlk⟩ := X
  intro H locs ls hP hS hl
  exact lv_lstore_n hx hb d hi hl hn hq (fun ls1 hl1 => kk H locs ls1 hP hS hl1)

theorem V_lstore (X : Cx g p l R s m args meth c cc nL own Ts) (lv1 : List (Nat × Value)) {i : Nat} {x : Int64} (d : decode cc pc = .ok (.lstore i, 2)) (hn : i + 1 < nL) (hq : (i, Value.long x) :: lv.filter (fun q => !(q.1 == i) && (!(q.1 == i + 1) && !(q.1 + 1 == i && q.2.category == 2))) = lv1) (kk : V g p l e R s m args below meth c nL k n Q σ (pc + 2) lv1 (st)) : V g p l e R s m args below meth c nL k n Q σ pc lv (.long x :: st) := by
  obtain ⟨⟨hx, hb, hml, hown, hts⟩, hwk, hg, hl9, hlk⟩ := X
  intro H locs ls hP hS hl
  exact lv_lstore hx hb d hl hn hq (fun ls1 hl1 => kk H locs ls1 hP hS hl1)

theorem V_fload_n (X : Cx g p l R s m args meth c cc nL own Ts) (j : Nat) {i : Nat} {x : UInt32} (hj : lv[j]? = some (i, .float x)) {i4 : Fin 4} (d : decode cc pc = .ok (.fload_n i4, 1)) (hi : (i4 : Nat) = i) (kk : V g p l e R s m args below meth c nL k n Q σ (pc + 1) lv (.float x :: st)) : V g p l e R s m args below meth c nL k n Q σ pc lv (st) := by
  obtain ⟨⟨hx, hb, hml, hown, hts⟩, hwk, hg, hl9, hlk⟩ := X
  intro H locs ls hP hS hl
  exact lv_fload_n hx hb d hi (lv_at hl j hj) (kk H locs ls hP hS hl)

theorem V_fload (X : Cx g p l R s m args meth c cc nL own Ts) (j : Nat) {i : Nat} {x : UInt32} (hj : lv[j]? = some (i, .float x)) (d : decode cc pc = .ok (.fload i, 2)) (kk : V g p l e R s m args below meth c nL k n Q σ (pc + 2) lv (.float x :: st)) : V g p l e R s m args below meth c nL k n Q σ pc lv (st) := by
  obtain ⟨⟨hx, hb, hml, hown, hts⟩, hwk, hg, hl9, hlk⟩ := X
  intro H locs ls hP hS hl
  exact lv_fload hx hb d (lv_at hl j hj) (kk H locs ls hP hS hl)

theorem V_fstore_n (X : Cx g p l R s m args meth c cc nL own Ts) (lv1 : List (Nat × Value)) {i : Nat} {x : UInt32} {i4 : Fin 4} (d : decode cc pc = .ok (.fstore_n i4, 1)) (hi : (i4 : Nat) = i) (hn : i < nL) (hq : (i, Value.float x) :: lv.filter (fun q => !(q.1 == i) && !(q.1 + 1 == i && q.2.category == 2)) = lv1) (kk : V g p l e R s m args below meth c nL k n Q σ (pc + 1) lv1 (st)) : V g p l e R s m args below meth c nL k n Q σ pc lv (.float x :: st) := by
  obtain ⟨⟨hx, hb, hml, hown, hts⟩, hwk, hg, hl9, hlk⟩ := X
  intro H locs ls hP hS hl
  exact lv_fstore_n hx hb d hi hl hn hq (fun ls1 hl1 => kk H locs ls1 hP hS hl1)

theorem V_fstore (X : Cx g p l R s m args meth c cc nL own Ts) (lv1 : List (Nat × Value)) {i : Nat} {x : UInt32} (d : decode cc pc = .ok (.fstore i, 2)) (hn : i < nL) (hq : (i, Value.float x) :: lv.filter (fun q => !(q.1 == i) && !(q.1 + 1 == i && q.2.category == 2)) = lv1) (kk : V g p l e R s m args below meth c nL k n Q σ (pc + 2) lv1 (st)) : V g p l e R s m args below meth c nL k n Q σ pc lv (.float x :: st) := by
  obtain ⟨⟨hx, hb, hml, hown, hts⟩, hwk, hg, hl9, hlk⟩ := X
  intro H locs ls hP hS hl
  exact lv_fstore hx hb d hl hn hq (fun ls1 hl1 => kk H locs ls1 hP hS hl1)

theorem V_dload_n (X : Cx g p l R s m args meth c cc nL own Ts) (j : Nat) {i : Nat} {x : UInt64} (hj : lv[j]? = some (i, .double x)) {i4 : Fin 4} (d : decode cc pc = .ok (.dload_n i4, 1)) (hi : (i4 : Nat) = i) (kk : V g p l e R s m args below meth c nL k n Q σ (pc + 1) lv (.double x :: st)) : V g p l e R s m args below meth c nL k n Q σ pc lv (st) := by
  obtain ⟨⟨hx, hb, hml, hown, hts⟩, hwk, hg, hl9, hlk⟩ := X
  intro H locs ls hP hS hl
  exact lv_dload_n hx hb d hi (lv_at hl j hj) (kk H locs ls hP hS hl)

theorem V_dload (X : Cx g p l R s m args meth c cc nL own Ts) (j : Nat) {i : Nat} {x : UInt64} (hj : lv[j]? = some (i, .double x)) (d : decode cc pc = .ok (.dload i, 2)) (kk : V g p l e R s m args below meth c nL k n Q σ (pc + 2) lv (.double x :: st)) : V g p l e R s m args below meth c nL k n Q σ pc lv (st) := by
  obtain ⟨⟨hx, hb, hml, hown, hts⟩, hwk, hg, hl9, hlk⟩ := X
  intro H locs ls hP hS hl
  exact lv_dload hx hb d (lv_at hl j hj) (kk H locs ls hP hS hl)

theorem V_dstore_n (X : Cx g p l R s m args meth c cc nL own Ts) (lv1 : List (Nat × Value)) {i : Nat} {x : UInt64} {i4 : Fin 4} (d : decode cc pc = .ok (.dstore_n i4, 1)) (hi : (i4 : Nat) = i) (hn : i + 1 < nL) (hq : (i, Value.double x) :: lv.filter (fun q => !(q.1 == i) && (!(q.1 == i + 1) && !(q.1 + 1 == i && q.2.category == 2))) = lv1) (kk : V g p l e R s m args below meth c nL k n Q σ (pc + 1) lv1 (st)) : V g p l e R s m args below meth c nL k n Q σ pc lv (.double x :: st) := by
  obtain ⟨⟨hx, hb, hml, hown, hts⟩, hwk, hg, hl9, hlk⟩ := X
  intro H locs ls hP hS hl
  exact lv_dstore_n hx hb d hi hl hn hq (fun ls1 hl1 => kk H locs ls1 hP hS hl1)

theorem V_dstore (X : Cx g p l R s m args meth c cc nL own Ts) (lv1 : List (Nat × Value)) {i : Nat} {x : UInt64} (d : decode cc pc = .ok (.dstore i, 2)) (hn : i + 1 < nL) (hq : (i, Value.double x) :: lv.filter (fun q => !(q.1 == i) && (!(q.1 == i + 1) && !(q.1 + 1 == i && q.2.category == 2))) = lv1) (kk : V g p l e R s m args below meth c nL k n Q σ (pc + 2) lv1 (st)) : V g p l e R s m args below meth c nL k n Q σ pc lv (.double x :: st) := by
  obtain ⟨⟨hx, hb, hml, hown, hts⟩, hwk, hg, hl9, hlk⟩ := X
  intro H locs ls hP hS hl
  exact lv_dstore hx hb d hl hn hq (fun ls1 hl1 => kk H locs ls1 hP hS hl1)

theorem V_iinc (X : Cx g p l R s m args meth c cc nL own Ts) (lv1 : List (Nat × Value)) (j : Nat) {i : Nat} {z a : Int} (hj : lv[j]? = some (i, .int (iN a))) (d : decode cc pc = .ok (.iinc i z, 3)) (hn : i < nL) (hq : (i, Value.int (iN (a + z))) :: lv.filter (fun q => !(q.1 == i) && !(q.1 + 1 == i && q.2.category == 2)) = lv1) (kk : V g p l e R s m args below meth c nL k n Q σ (pc + 3) lv1 (st)) : V g p l e R s m args below meth c nL k n Q σ pc lv (st) := by
  obtain ⟨⟨hx, hb, hml, hown, hts⟩, hwk, hg, hl9, hlk⟩ := X
  intro H locs ls hP hS hl
  exact lv_iinc hx hb d hl hj (iN_add a z) hn hq (fun ls1 hl1 => kk H locs ls1 hP hS hl1)

theorem V_iadd (X : Cx g p l R s m args meth c cc nL own Ts) {a b : Int} (d : decode cc pc = .ok (.iadd, 1)) (kk : V g p l e R s m args below meth c nL k n Q σ (pc + 1) lv (.int (iN (a + b)) :: st)) : V g p l e R s m args below meth c nL k n Q σ pc lv (.int (iN b) :: .int (iN a) :: st) := by
  obtain ⟨⟨hx, hb, hml, hown, hts⟩, hwk, hg, hl9, hlk⟩ := X
  intro H locs ls hP hS hl
  refine lv_iadd hx hb d ?_
  rw [iN_add]
  exact kk H locs ls hP hS hl

theorem V_isub (X : Cx g p l R s m args meth c cc nL own Ts) {a b : Int} (d : decode cc pc = .ok (.isub, 1)) (kk : V g p l e R s m args below meth c nL k n Q σ (pc + 1) lv (.int (iN (a - b)) :: st)) : V g p l e R s m args below meth c nL k n Q σ pc lv (.int (iN b) :: .int (iN a) :: st) := by
  obtain ⟨⟨hx, hb, hml, hown, hts⟩, hwk, hg, hl9, hlk⟩ := X
  intro H locs ls hP hS hl
  refine lv_isub hx hb d ?_
  rw [iN_sub]
  exact kk H locs ls hP hS hl

theorem V_imul (X : Cx g p l R s m args meth c cc nL own Ts) {a b : Int} (d : decode cc pc = .ok (.imul, 1)) (kk : V g p l e R s m args below meth c nL k n Q σ (pc + 1) lv (.int (iN (a * b)) :: st)) : V g p l e R s m args below meth c nL k n Q σ pc lv (.int (iN b) :: .int (iN a) :: st) := by
  obtain ⟨⟨hx, hb, hml, hown, hts⟩, hwk, hg, hl9, hlk⟩ := X
  intro H locs ls hP hS hl
  refine lv_imul hx hb d ?_
  rw [iN_mul]
  exact kk H locs ls hP hS hl

theorem V_idiv (X : Cx g p l R s m args meth c cc nL own Ts) {a b : Int} (ha : 0 ≤ a) (ha2 : a ≤ 2147483647) (hb0 : 0 < b) (hb2 : b ≤ 2147483647) (d : decode cc pc = .ok (.idiv, 1)) (kk : V g p l e R s m args below meth c nL k n Q σ (pc + 1) lv (.int (iN (a / b)) :: st)) : V g p l e R s m args below meth c nL k n Q σ pc lv (.int (iN b) :: .int (iN a) :: st) := by
  obtain ⟨⟨hx, hb, hml, hown, hts⟩, hwk, hg, hl9, hlk⟩ := X
  intro H locs ls hP hS hl
  refine lv_idiv hx hb d (fun h => ?_) ?_
  · rw [← iN_0, iN_eq ⟨by omega, by omega⟩ R32_0] at h
    omega
  · rw [iN_div ha ha2 hb0 hb2]
    exact kk H locs ls hP hS hl

theorem V_ladd (X : Cx g p l R s m args meth c cc nL own Ts) {a b : Int} (d : decode cc pc = .ok (.ladd, 1)) (kk : V g p l e R s m args below meth c nL k n Q σ (pc + 1) lv (.long (lI (a + b)) :: st)) : V g p l e R s m args below meth c nL k n Q σ pc lv (.long (lI b) :: .long (lI a) :: st) := by
  obtain ⟨⟨hx, hb, hml, hown, hts⟩, hwk, hg, hl9, hlk⟩ := X
  intro H locs ls hP hS hl
  refine lv_ladd hx hb d ?_
  rw [lI_add]
  exact kk H locs ls hP hS hl

theorem V_lmul (X : Cx g p l R s m args meth c cc nL own Ts) {a b : Int} (d : decode cc pc = .ok (.lmul, 1)) (kk : V g p l e R s m args below meth c nL k n Q σ (pc + 1) lv (.long (lI (a * b)) :: st)) : V g p l e R s m args below meth c nL k n Q σ pc lv (.long (lI b) :: .long (lI a) :: st) := by
  obtain ⟨⟨hx, hb, hml, hown, hts⟩, hwk, hg, hl9, hlk⟩ := X
  intro H locs ls hP hS hl
  refine lv_lmul hx hb d ?_
  rw [lI_mul]
  exact kk H locs ls hP hS hl

theorem V_i2l (X : Cx g p l R s m args meth c cc nL own Ts) {a : Int} (h : R32 a) (d : decode cc pc = .ok (.i2l, 1)) (kk : V g p l e R s m args below meth c nL k n Q σ (pc + 1) lv (.long (lI a) :: st)) : V g p l e R s m args below meth c nL k n Q σ pc lv (.int (iN a) :: st) := by
  obtain ⟨⟨hx, hb, hml, hown, hts⟩, hwk, hg, hl9, hlk⟩ := X
  intro H locs ls hP hS hl
  exact lv_i2l hx hb d (iN_l h) (kk H locs ls hP hS hl)

theorem V_dup (X : Cx g p l R s m args meth c cc nL own Ts) {v : Value} (hv : v.category = 1) (d : decode cc pc = .ok (.dup, 1)) (kk : V g p l e R s m args below meth c nL k n Q σ (pc + 1) lv (v :: v :: st)) : V g p l e R s m args below meth c nL k n Q σ pc lv (v :: st) := by
  obtain ⟨⟨hx, hb, hml, hown, hts⟩, hwk, hg, hl9, hlk⟩ := X
  intro H locs ls hP hS hl
  exact lv_dup hx hb d hv (kk H locs ls hP hS hl)

theorem V_dup2 (X : Cx g p l R s m args meth c cc nL own Ts) {va vb : Value} (ha : va.category = 1) (hb1 : vb.category = 1) (d : decode cc pc = .ok (.dup2, 1)) (kk : V g p l e R s m args below meth c nL k n Q σ (pc + 1) lv (va :: vb :: va :: vb :: st)) : V g p l e R s m args below meth c nL k n Q σ pc lv (va :: vb :: st) := by
  obtain ⟨⟨hx, hb, hml, hown, hts⟩, hwk, hg, hl9, hlk⟩ := X
  intro H locs ls hP hS hl
  exact lv_dup2_11 hx hb d ha hb1 (kk H locs ls hP hS hl)

theorem V_pop (X : Cx g p l R s m args meth c cc nL own Ts) {v : Value} (hv : v.category = 1) (d : decode cc pc = .ok (.pop, 1)) (kk : V g p l e R s m args below meth c nL k n Q σ (pc + 1) lv (st)) : V g p l e R s m args below meth c nL k n Q σ pc lv (v :: st) := by
  obtain ⟨⟨hx, hb, hml, hown, hts⟩, hwk, hg, hl9, hlk⟩ := X
  intro H locs ls hP hS hl
  exact lv_pop hx hb d hv (kk H locs ls hP hS hl)

theorem V_if_eq (X : Cx g p l R s m args meth c cc nL own Ts) {a : Int} {off : Int} (tgt : Nat) (ha : R32 a) (d : decode cc pc = .ok (.ifCond .eq off, 3)) (ht : (pc : Int) + off = (tgt : Int)) (kt : a = 0 → V g p l e R s m args below meth c nL k n Q σ tgt lv (st)) (kf : ¬ a = 0 → V g p l e R s m args below meth c nL k n Q σ (pc + 3) lv (st)) : V g p l e R s m args below meth c nL k n Q σ pc lv (.int (iN a) :: st) := by
  obtain ⟨⟨hx, hb, hml, hown, hts⟩, hwk, hg, hl9, hlk⟩ := X
  intro H locs ls hP hS hl
  refine lv_if_eq hx hb d ht (fun h => kt ?_ H locs ls hP hS hl) (fun h => kf ?_ H locs ls hP hS hl)
  · rwa [← iN_0, iN_eq ha R32_0] at h
  · rwa [← iN_0, iN_eq ha R32_0] at h

theorem V_icmp_eq (X : Cx g p l R s m args meth c cc nL own Ts) {a b : Int} {off : Int} (tgt : Nat) (ha : R32 a) (hb1 : R32 b) (d : decode cc pc = .ok (.if_icmp .eq off, 3)) (ht : (pc : Int) + off = (tgt : Int)) (kt : a = b → V g p l e R s m args below meth c nL k n Q σ tgt lv (st)) (kf : ¬ a = b → V g p l e R s m args below meth c nL k n Q σ (pc + 3) lv (st)) : V g p l e R s m args below meth c nL k n Q σ pc lv (.int (iN b) :: .int (iN a) :: st) := by
  obtain ⟨⟨hx, hb, hml, hown, hts⟩, hwk, hg, hl9, hlk⟩ := X
  intro H locs ls hP hS hl
  refine lv_icmp_eq hx hb d ht (fun h => kt ?_ H locs ls hP hS hl) (fun h => kf ?_ H locs ls hP hS hl)
  · rwa [iN_eq ha hb1] at h
  · rwa [iN_eq ha hb1] at h

theorem V_if_ne (X : Cx g p l R s m args meth c cc nL own Ts) {a : Int} {off : Int} (tgt : Nat) (ha : R32 a) (d : decode cc pc = .ok (.ifCond .ne off, 3)) (ht : (pc : Int) + off = (tgt : Int)) (kt : ¬ a = 0 → V g p l e R s m args below meth c nL k n Q σ tgt lv (st)) (kf : a = 0 → V g p l e R s m args below meth c nL k n Q σ (pc + 3) lv (st)) : V g p l e R s m args below meth c nL k n Q σ pc lv (.int (iN a) :: st) := by
  obtain ⟨⟨hx, hb, hml, hown, hts⟩, hwk, hg, hl9, hlk⟩ := X
  intro H locs ls hP hS hl
  refine lv_if_ne hx hb d ht (fun h => kt (fun z => h (by rw [z]; exact iN_0)) H locs ls hP hS hl) (fun h => kf ?_ H locs ls hP hS hl)
  first | (rw [← iN_0, iN_eq ha R32_0] at h; exact h) | (rw [← iN_0] at h; simpa [iN_eq ha R32_0] using h)

theorem V_icmp_ne (X : Cx g p l R s m args meth c cc nL own Ts) {a b : Int} {off : Int} (tgt : Nat) (ha : R32 a) (hb1 : R32 b) (d : decode cc pc = .ok (.if_icmp .ne off, 3)) (ht : (pc : Int) + off = (tgt : Int)) (kt : ¬ a = b → V g p l e R s m args below meth c nL k n Q σ tgt lv (st)) (kf : a = b → V g p l e R s m args below meth c nL k n Q σ (pc + 3) lv (st)) : V g p l e R s m args below meth c nL k n Q σ pc lv (.int (iN b) :: .int (iN a) :: st) := by
  obtain ⟨⟨hx, hb, hml, hown, hts⟩, hwk, hg, hl9, hlk⟩ := X
  intro H locs ls hP hS hl
  refine lv_icmp_ne hx hb d ht (fun h => kt (fun z => h (by rw [z])) H locs ls hP hS hl) (fun h => kf ?_ H locs ls hP hS hl)
  first | (rw [iN_eq ha hb1] at h; exact h) | (simpa [iN_eq ha hb1] using h)

theorem V_if_lt (X : Cx g p l R s m args meth c cc nL own Ts) {a : Int} {off : Int} (tgt : Nat) (ha : R32 a) (d : decode cc pc = .ok (.ifCond .lt off, 3)) (ht : (pc : Int) + off = (tgt : Int)) (kt : a < 0 → V g p l e R s m args below meth c nL k n Q σ tgt lv (st)) (kf : ¬ a < 0 → V g p l e R s m args below meth c nL k n Q σ (pc + 3) lv (st)) : V g p l e R s m args below meth c nL k n Q σ pc lv (.int (iN a) :: st) := by
  obtain ⟨⟨hx, hb, hml, hown, hts⟩, hwk, hg, hl9, hlk⟩ := X
  intro H locs ls hP hS hl
  refine lv_if_lt hx hb d ht (fun h => kt ?_ H locs ls hP hS hl) (fun h => kf ?_ H locs ls hP hS hl)
  · rwa [← iN_0, iN_lt ha R32_0] at h
  · rwa [← iN_0, iN_lt ha R32_0] at h

theorem V_icmp_lt (X : Cx g p l R s m args meth c cc nL own Ts) {a b : Int} {off : Int} (tgt : Nat) (ha : R32 a) (hb1 : R32 b) (d : decode cc pc = .ok (.if_icmp .lt off, 3)) (ht : (pc : Int) + off = (tgt : Int)) (kt : a < b → V g p l e R s m args below meth c nL k n Q σ tgt lv (st)) (kf : ¬ a < b → V g p l e R s m args below meth c nL k n Q σ (pc + 3) lv (st)) : V g p l e R s m args below meth c nL k n Q σ pc lv (.int (iN b) :: .int (iN a) :: st) := by
  obtain ⟨⟨hx, hb, hml, hown, hts⟩, hwk, hg, hl9, hlk⟩ := X
  intro H locs ls hP hS hl
  refine lv_icmp_lt hx hb d ht (fun h => kt ?_ H locs ls hP hS hl) (fun h => kf ?_ H locs ls hP hS hl)
  · rwa [iN_lt ha hb1] at h
  · rwa [iN_lt ha hb1] at h

theorem V_if_ge (X : Cx g p l R s m args meth c cc nL own Ts) {a : Int} {off : Int} (tgt : Nat) (ha : R32 a) (d : decode cc pc = .ok (.ifCond .ge off, 3)) (ht : (pc : Int) + off = (tgt : Int)) (kt : 0 ≤ a → V g p l e R s m args below meth c nL k n Q σ tgt lv (st)) (kf : ¬ 0 ≤ a → V g p l e R s m args below meth c nL k n Q σ (pc + 3) lv (st)) : V g p l e R s m args below meth c nL k n Q σ pc lv (.int (iN a) :: st) := by
  obtain ⟨⟨hx, hb, hml, hown, hts⟩, hwk, hg, hl9, hlk⟩ := X
  intro H locs ls hP hS hl
  refine lv_if_ge hx hb d ht (fun h => kt ?_ H locs ls hP hS hl) (fun h => kf ?_ H locs ls hP hS hl)
  · rwa [← iN_0, iN_le R32_0 ha] at h
  · rwa [← iN_0, iN_le R32_0 ha] at h

theorem V_icmp_ge (X : Cx g p l R s m args meth c cc nL own Ts) {a b : Int} {off : Int} (tgt : Nat) (ha : R32 a) (hb1 : R32 b) (d : decode cc pc = .ok (.if_icmp .ge off, 3)) (ht : (pc : Int) + off = (tgt : Int)) (kt : b ≤ a → V g p l e R s m args below meth c nL k n Q σ tgt lv (st)) (kf : ¬ b ≤ a → V g p l e R s m args below meth c nL k n Q σ (pc + 3) lv (st)) : V g p l e R s m args below meth c nL k n Q σ pc lv (.int (iN b) :: .int (iN a) :: st) := by
  obtain ⟨⟨hx, hb, hml, hown, hts⟩, hwk, hg, hl9, hlk⟩ := X
  intro H locs ls hP hS hl
  refine lv_icmp_ge hx hb d ht (fun h => kt ?_ H locs ls hP hS hl) (fun h => kf ?_ H locs ls hP hS hl)
  · rwa [iN_le hb1 ha] at h
  · rwa [iN_le hb1 ha] at h

theorem V_if_gt (X : Cx g p l R s m args meth c cc nL own Ts) {a : Int} {off : Int} (tgt : Nat) (ha : R32 a) (d : decode cc pc = .ok (.ifCond .gt off, 3)) (ht : (pc : Int) + off = (tgt : Int)) (kt : 0 < a → V g p l e R s m args below meth c nL k n Q σ tgt lv (st)) (kf : ¬ 0 < a → V g p l e R s m args below meth c nL k n Q σ (pc + 3) lv (st)) : V g p l e R s m args below meth c nL k n Q σ pc lv (.int (iN a) :: st) := by
  obtain ⟨⟨hx, hb, hml, hown, hts⟩, hwk, hg, hl9, hlk⟩ := X
  intro H locs ls hP hS hl
  refine lv_if_gt hx hb d ht (fun h => kt ?_ H locs ls hP hS hl) (fun h => kf ?_ H locs ls hP hS hl)
  · rwa [← iN_0, iN_lt R32_0 ha] at h
  · rwa [← iN_0, iN_lt R32_0 ha] at h

theorem V_icmp_gt (X : Cx g p l R s m args meth c cc nL own Ts) {a b : Int} {off : Int} (tgt : Nat) (ha : R32 a) (hb1 : R32 b) (d : decode cc pc = .ok (.if_icmp .gt off, 3)) (ht : (pc : Int) + off = (tgt : Int)) (kt : b < a → V g p l e R s m args below meth c nL k n Q σ tgt lv (st)) (kf : ¬ b < a → V g p l e R s m args below meth c nL k n Q σ (pc + 3) lv (st)) : V g p l e R s m args below meth c nL k n Q σ pc lv (.int (iN b) :: .int (iN a) :: st) := by
  obtain ⟨⟨hx, hb, hml, hown, hts⟩, hwk, hg, hl9, hlk⟩ := X
  intro H locs ls hP hS hl
  refine lv_icmp_gt hx hb d ht (fun h => kt ?_ H locs ls hP hS hl) (fun h => kf ?_ H locs ls hP hS hl)
  · rwa [iN_lt hb1 ha] at h
  · rwa [iN_lt hb1 ha] at h

theorem V_if_le (X : Cx g p l R s m args meth c cc nL own Ts) {a : Int} {off : Int} (tgt : Nat) (ha : R32 a) (d : decode cc pc = .ok (.ifCond .le off, 3)) (ht : (pc : Int) + off = (tgt : Int)) (kt : a ≤ 0 → V g p l e R s m args below meth c nL k n Q σ tgt lv (st)) (kf : ¬ a ≤ 0 → V g p l e R s m args below meth c nL k n Q σ (pc + 3) lv (st)) : V g p l e R s m args below meth c nL k n Q σ pc lv (.int (iN a) :: st) := by
  obtain ⟨⟨hx, hb, hml, hown, hts⟩, hwk, hg, hl9, hlk⟩ := X
  intro H locs ls hP hS hl
  refine lv_if_le hx hb d ht (fun h => kt ?_ H locs ls hP hS hl) (fun h => kf ?_ H locs ls hP hS hl)
  · rwa [← iN_0, iN_le ha R32_0] at h
  · rwa [← iN_0, iN_le ha R32_0] at h

theorem V_icmp_le (X : Cx g p l R s m args meth c cc nL own Ts) {a b : Int} {off : Int} (tgt : Nat) (ha : R32 a) (hb1 : R32 b) (d : decode cc pc = .ok (.if_icmp .le off, 3)) (ht : (pc : Int) + off = (tgt : Int)) (kt : a ≤ b → V g p l e R s m args below meth c nL k n Q σ tgt lv (st)) (kf : ¬ a ≤ b → V g p l e R s m args below meth c nL k n Q σ (pc + 3) lv (st)) : V g p l e R s m args below meth c nL k n Q σ pc lv (.int (iN b) :: .int (iN a) :: st) := by
  obtain ⟨⟨hx, hb, hml, hown, hts⟩, hwk, hg, hl9, hlk⟩ := X
  intro H locs ls hP hS hl
  refine lv_icmp_le hx hb d ht (fun h => kt ?_ H locs ls hP hS hl) (fun h => kf ?_ H locs ls hP hS hl)
  · rwa [iN_le ha hb1] at h
  · rwa [iN_le ha hb1] at h

theorem V_goto (X : Cx g p l R s m args meth c cc nL own Ts) {off : Int} (tgt : Nat) (d : decode cc pc = .ok (.goto off, 3)) (ht : (pc : Int) + off = (tgt : Int)) (kk : V g p l e R s m args below meth c nL k n Q σ tgt lv (st)) : V g p l e R s m args below meth c nL k n Q σ pc lv (st) := by
  obtain ⟨⟨hx, hb, hml, hown, hts⟩, hwk, hg, hl9, hlk⟩ := X
  intro H locs ls hP hS hl
  exact lv_goto hx hb d ht (kk H locs ls hP hS hl)

theorem V_get (X : Cx g p l R s m args meth c cc nL own Ts) {ci idx N : Nat} {C ref : String} {T : u_T} (a : Nat) (ha : a < 112) (hkd : kd a = ci) (h8 : ci < 8) (hc : vwCl[ci]? = some (C, T, N)) (hin : ∀ w ∈ u_ws C T N, w ∈ Ts) (j : Nat) (hj : j < N) (hlk0 : Cond.fieldLink own idx ref (T j).2.1 (T j).2.2.1 ∈ Ts) (href : ref = (T j).1) {v : Value} (hv : (flds g (σ.1 a) ci a)[j]? = some v) (d : decode cc pc = .ok (.getfield idx, 3)) (kk : V g p l e R s m args below meth c nL k n Q σ (pc + 3) lv (v :: st)) : V g p l e R s m args below meth c nL k n Q σ pc lv (.ref (ga g a) :: st) := by
  obtain ⟨⟨hx, hb, hml, hown, hts⟩, hwk, hg, hl9, hlk⟩ := X
  intro H locs ls hP hS hl
  have he : (cells g σ)[a]? = some (ga g a, .inr (ci, flds g (σ.1 a) ci a)) := by rw [cells_at ha, cL_obj hkd h8]
  exact va_get hx hb hts hin hown hwk.1 hP a he hc j hj (hts _ hlk0) (fun x hx1 => by rw [href]; exact hx1) hv d (kk H locs ls hP hS hl)

theorem V_put (X : Cx g p l R s m args meth c cc nL own Ts) {ci idx N : Nat} {C ref : String} {T : u_T} (a : Nat) (ha : a < 112) (hkd : kd a = ci) (h8 : ci < 8) (hc : vwCl[ci]? = some (C, T, N)) (hin : ∀ w ∈ u_ws C T N, w ∈ Ts) (j : Nat) (hj : j < N) (hlk0 : Cond.fieldLink own idx ref (T j).2.1 (T j).2.2.1 ∈ Ts) (href : ref = (T j).1) {z : Int} {ty : FieldType} (ty0 : Nat → FieldType) (hty : ∀ k, k < N → parseFieldDescriptor (T k).2.2.1 = some (ty0 k)) (hnm : ∀ a, a < N → ∀ b, b < N → a ≠ b → (T a).2.1 ≠ (T b).2.1) (hfin : (T j).2.2.2 = false) (hd : parseFieldDescriptor (T j).2.2.1 = some ty) (hn : narrow ty (.int (iN z)) = .int (iN z)) (hfit : fits ty (.int (iN z)) = true) (hset : (flds g (σ.1 a) ci a).set j (.int (iN z)) = flds g (ur (σ.1 a) j z) ci a) (hlen : j < (flds g (σ.1 a) ci a).length) (d : decode cc pc = .ok (.putfield idx, 3)) (kk : V g p l e R s m args below meth c nL k n Q (sw σ a j z) (pc + 3) lv (st)) : V g p l e R s m args below meth c nL k n Q σ pc lv (.int (iN z) :: .ref (ga g a) :: st) := by
  obtain ⟨⟨hx, hb, hml, hown, hts⟩, hwk, hg, hl9, hlk⟩ := X
  intro H locs ls hP hS hl
  have he : (cells g σ)[a]? = some (ga g a, .inr (ci, flds g (σ.1 a) ci a)) := by rw [cells_at ha, cL_obj hkd h8]
  refine va_put hx hb hts hin ty0 hty hnm hown hwk.1 hP (hg.D σ) hS a he hc j hj (hts _ hlk0) (fun x hx1 => by rw [href]; exact hx1) hfin hd hn hfit hlen d (fun H1 locs1 hP1 _ hS1 => kk H1 locs1 ls ?_ hS1 hl)
  rw [hset, cells_set ha (cL_obj hkd h8)] at hP1
  exact hP1

theorem V_iald (X : Cx g p l R s m args meth c cc nL own Ts) {N : Nat} {i : Int} (a : Nat) (ha : a < 112) (hkd : kd a = 9) (hN : ln a = N) (hN2 : N ≤ 2147483647) (hi0 : 0 ≤ i) (hi1 : i < N) (d : decode cc pc = .ok (.iaload, 1)) (kk : V g p l e R s m args below meth c nL k n Q σ (pc + 1) lv (.int (iN (σ.1 a i.toNat)) :: st)) : V g p l e R s m args below meth c nL k n Q σ pc lv (.int (iN i) :: .ref (ga g a) :: st) := by
  obtain ⟨⟨hx, hb, hml, hown, hts⟩, hwk, hg, hl9, hlk⟩ := X
  intro H locs ls hP hS hl
  have he : (cells g σ)[a]? = some (ga g a, .inl (gc g 9, N, .inl (fun k => iN (σ.1 a k)))) := by rw [cells_at ha, cL_arr hkd (by decide) (by decide) hN]
  refine va_iald hx hb hwk.1 hP a 1 he rfl (iN_in hi0 hi1 hN2) d ?_
  rw [iN_clamp ⟨by omega, by omega⟩]
  exact kk H locs ls hP hS hl

theorem V_cald (X : Cx g p l R s m args meth c cc nL own Ts) {N : Nat} {i : Int} (a : Nat) (ha : a < 112) (hkd : kd a = 8) (hN : ln a = N) (hN2 : N ≤ 2147483647) (hi0 : 0 ≤ i) (hi1 : i < N) (d : decode cc pc = .ok (.caload, 1)) (kk : V g p l e R s m args below meth c nL k n Q σ (pc + 1) lv (.int (iN (σ.1 a i.toNat)) :: st)) : V g p l e R s m args below meth c nL k n Q σ pc lv (.int (iN i) :: .ref (ga g a) :: st) := by
  obtain ⟨⟨hx, hb, hml, hown, hts⟩, hwk, hg, hl9, hlk⟩ := X
  intro H locs ls hP hS hl
  have he : (cells g σ)[a]? = some (ga g a, .inl (gc g 8, N, .inl (fun k => iN (σ.1 a k)))) := by rw [cells_at ha, cL_arr hkd (by decide) (by decide) hN]
  refine va_cald hx hb hwk.1 hP a 0 he rfl (iN_in hi0 hi1 hN2) d ?_
  rw [iN_clamp ⟨by omega, by omega⟩]
  exact kk H locs ls hP hS hl

theorem V_zald (X : Cx g p l R s m args meth c cc nL own Ts) {N : Nat} {i : Int} (a : Nat) (ha : a < 112) (hkd : kd a = 10) (hN : ln a = N) (hN2 : N ≤ 2147483647) (hi0 : 0 ≤ i) (hi1 : i < N) (d : decode cc pc = .ok (.baload, 1)) (kk : V g p l e R s m args below meth c nL k n Q σ (pc + 1) lv (.int (iN (σ.1 a i.toNat)) :: st)) : V g p l e R s m args below meth c nL k n Q σ pc lv (.int (iN i) :: .ref (ga g a) :: st) := by
  obtain ⟨⟨hx, hb, hml, hown, hts⟩, hwk, hg, hl9, hlk⟩ := X
  intro H locs ls hP hS hl
  have he : (cells g σ)[a]? = some (ga g a, .inl (gc g 10, N, .inl (fun k => iN (σ.1 a k)))) := by rw [cells_at ha, cL_arr hkd (by decide) (by decide) hN]
  refine va_zald hx hb hwk.1 hP a 2 he rfl (iN_in hi0 hi1 hN2) d ?_
  rw [iN_clamp ⟨by omega, by omega⟩]
  exact kk H locs ls hP hS hl

theorem V_iast (X : Cx g p l R s m args meth c cc nL own Ts) {N : Nat} {i z : Int} (a : Nat) (ha : a < 112) (hkd : kd a = 9) (hN : ln a = N) (hN2 : N ≤ 2147483647) (hi0 : 0 ≤ i) (hi1 : i < N) (d : decode cc pc = .ok (.iastore, 1)) (kk : V g p l e R s m args below meth c nL k n Q (sw σ a i.toNat z) (pc + 1) lv (st)) : V g p l e R s m args below meth c nL k n Q σ pc lv (.int (iN z) :: .int (iN i) :: .ref (ga g a) :: st) := by
  obtain ⟨⟨hx, hb, hml, hown, hts⟩, hwk, hg, hl9, hlk⟩ := X
  intro H locs ls hP hS hl
  have he : (cells g σ)[a]? = some (ga g a, .inl (gc g 9, N, .inl (fun k => iN (σ.1 a k)))) := by rw [cells_at ha, cL_arr hkd (by decide) (by decide) hN]
  refine va_iast hx hb hwk.1 hP (hg.D σ) hS a 1 he rfl (iN_in hi0 hi1 hN2) d (fun H1 locs1 hP1 _ hS1 => kk H1 locs1 ls ?_ hS1 hl)
  rw [iN_clamp ⟨by omega, by omega⟩] at hP1
  have e8 : upd (fun k => iN (σ.1 a k)) i.toNat (iN z) = fun k => iN (ur (σ.1 a) i.toNat z k) := by
    funext q
    by_cases hq : q = i.toNat <;> simp [upd, ur, hq]
  rw [e8, cells_set ha (cL_arr hkd (by decide) (by decide) hN)] at hP1
  exact hP1

theorem V_cast (X : Cx g p l R s m args meth c cc nL own Ts) {N : Nat} {i z : Int} (a : Nat) (ha : a < 112) (hkd : kd a = 8) (hN : ln a = N) (hN2 : N ≤ 2147483647) (hi0 : 0 ≤ i) (hi1 : i < N) (hv0 : 0 ≤ z) (hv1 : z < 65536) (d : decode cc pc = .ok (.castore, 1)) (kk : V g p l e R s m args below meth c nL k n Q (sw σ a i.toNat z) (pc + 1) lv (st)) : V g p l e R s m args below meth c nL k n Q σ pc lv (.int (iN z) :: .int (iN i) :: .ref (ga g a) :: st) := by
  obtain ⟨⟨hx, hb, hml, hown, hts⟩, hwk, hg, hl9, hlk⟩ := X
  intro H locs ls hP hS hl
  have he : (cells g σ)[a]? = some (ga g a, .inl (gc g 8, N, .inl (fun k => iN (σ.1 a k)))) := by rw [cells_at ha, cL_arr hkd (by decide) (by decide) hN]
  refine va_cast hx hb hwk.1 hP (hg.D σ) hS a 0 he rfl (iN_in hi0 hi1 hN2) d (fun H1 locs1 hP1 _ hS1 => kk H1 locs1 ls ?_ hS1 hl)
  rw [iN_clamp ⟨by omega, by omega⟩] at hP1
  have e9 : vp_nar .char (iN z) = iN z := by unfold vp_nar; rw [(iN_char hv0 hv1).1]
  rw [e9] at hP1
  have e8 : upd (fun k => iN (σ.1 a k)) i.toNat (iN z) = fun k => iN (ur (σ.1 a) i.toNat z k) := by
    funext q
    by_cases hq : q = i.toNat <;> simp [upd, ur, hq]
  rw [e8, cells_set ha (cL_arr hkd (by decide) (by decide) hN)] at hP1
  exact hP1

theorem V_zast (X : Cx g p l R s m args meth c cc nL own Ts) {N : Nat} {i z : Int} (a : Nat) (ha : a < 112) (hkd : kd a = 10) (hN : ln a = N) (hN2 : N ≤ 2147483647) (hi0 : 0 ≤ i) (hi1 : i < N) (hv0 : z = 0 ∨ z = 1) (d : decode cc pc = .ok (.bastore, 1)) (kk : V g p l e R s m args below meth c nL k n Q (sw σ a i.toNat z) (pc + 1) lv (st)) : V g p l e R s m args below meth c nL k n Q σ pc lv (.int (iN z) :: .int (iN i) :: .ref (ga g a) :: st) := by
  obtain ⟨⟨hx, hb, hml, hown, hts⟩, hwk, hg, hl9, hlk⟩ := X
  intro H locs ls hP hS hl
  have he : (cells g σ)[a]? = some (ga g a, .inl (gc g 10, N, .inl (fun k => iN (σ.1 a k)))) := by rw [cells_at ha, cL_arr hkd (by decide) (by decide) hN]
  refine va_zast hx hb hwk.1 hP (hg.D σ) hS a 2 he rfl (iN_in hi0 hi1 hN2) d (fun H1 locs1 hP1 _ hS1 => kk H1 locs1 ls ?_ hS1 hl)
  rw [iN_clamp ⟨by omega, by omega⟩] at hP1
  have e9 : vp_nar .boolean (iN z) = iN z := by unfold vp_nar; rw [(iN_bool hv0).1]
  rw [e9] at hP1
  have e8 : upd (fun k => iN (σ.1 a k)) i.toNat (iN z) = fun k => iN (ur (σ.1 a) i.toNat z k) := by
    funext q
    by_cases hq : q = i.toNat <;> simp [upd, ur, hq]
  rw [e8, cells_set ha (cL_arr hkd (by decide) (by decide) hN)] at hP1
  exact hP1

theorem V_aald14 (X : Cx g p l R s m args meth c cc nL own Ts) {i : Int} (a : Nat) (ha : a < 112) (hkd : kd a = 14) (hi0 : 0 ≤ i) (hi1 : i < 4) (d : decode cc pc = .ok (.aaload, 1)) (kk : V g p l e R s m args below meth c nL k n Q σ (pc + 1) lv (.ref (ga g (73 + 3 * i.toNat)) :: st)) : V g p l e R s m args below meth c nL k n Q σ pc lv (.int (iN i) :: .ref (ga g a) :: st) := by
  obtain ⟨⟨hx, hb, hml, hown, hts⟩, hwk, hg, hl9, hlk⟩ := X
  intro H locs ls hP hS hl
  have he := cells_at (g := g) (σ := σ) ha
  rw [cL_14 hkd] at he
  refine va_aldq hx hb hwk.1 hP a 5 he rfl (iN_in hi0 hi1 (by decide)) d ?_
  rw [iN_clamp ⟨by omega, by omega⟩]
  exact kk H locs ls hP hS hl

theorem V_aald15 (X : Cx g p l R s m args meth c cc nL own Ts) {i : Int} (a : Nat) (ha : a < 112) (hkd : kd a = 15) (hi0 : 0 ≤ i) (hi1 : i < 4) (d : decode cc pc = .ok (.aaload, 1)) (kk : V g p l e R s m args below meth c nL k n Q σ (pc + 1) lv (.ref (ga g (85 + i.toNat)) :: st)) : V g p l e R s m args below meth c nL k n Q σ pc lv (.int (iN i) :: .ref (ga g a) :: st) := by
  obtain ⟨⟨hx, hb, hml, hown, hts⟩, hwk, hg, hl9, hlk⟩ := X
  intro H locs ls hP hS hl
  have he := cells_at (g := g) (σ := σ) ha
  rw [cL_15 hkd] at he
  refine va_aldq hx hb hwk.1 hP a 6 he rfl (iN_in hi0 hi1 (by decide)) d ?_
  rw [iN_clamp ⟨by omega, by omega⟩]
  exact kk H locs ls hP hS hl

theorem V_aald16 (X : Cx g p l R s m args meth c cc nL own Ts) {i : Int} (a : Nat) (ha : a < 112) (hkd : kd a = 16) (hi0 : 0 ≤ i) (hi1 : i < 30) (d : decode cc pc = .ok (.aaload, 1)) (kk : V g p l e R s m args below meth c nL k n Q σ (pc + 1) lv (.ref (ga g (7 + 2 * i.toNat)) :: st)) : V g p l e R s m args below meth c nL k n Q σ pc lv (.int (iN i) :: .ref (ga g a) :: st) := by
  obtain ⟨⟨hx, hb, hml, hown, hts⟩, hwk, hg, hl9, hlk⟩ := X
  intro H locs ls hP hS hl
  have he := cells_at (g := g) (σ := σ) ha
  rw [cL_16 hkd] at he
  refine va_aldq hx hb hwk.1 hP a 7 he rfl (iN_in hi0 hi1 (by decide)) d ?_
  rw [iN_clamp ⟨by omega, by omega⟩]
  exact kk H locs ls hP hS hl

theorem V_alen (X : Cx g p l R s m args meth c cc nL own Ts) {N ti ci : Nat} {ty : FieldType} (a : Nat) (ha : a < 112) (hkd : kd a = ci) (h8 : ¬ ci < 8) (h11 : ci < 11) (hN : ln a = N) (ht : (tys g)[ti]? = some (gc g ci, ty)) (d : decode cc pc = .ok (.arraylength, 1)) (kk : V g p l e R s m args below meth c nL k n Q σ (pc + 1) lv (.int (iN (N : Int)) :: st)) : V g p l e R s m args below meth c nL k n Q σ pc lv (.ref (ga g a) :: st) := by
  obtain ⟨⟨hx, hb, hml, hown, hts⟩, hwk, hg, hl9, hlk⟩ := X
  intro H locs ls hP hS hl
  have he : (cells g σ)[a]? = some (ga g a, .inl (gc g ci, N, .inl (fun k => iN (σ.1 a k)))) := by rw [cells_at ha, cL_arr hkd h8 h11 hN]
  exact va_alen hx hb hwk.1 hP a ti he ht (v := iN (N : Int)) (Int32.ofInt_eq_ofNat).symm d (kk H locs ls hP hS hl)

end VR
end
section
/-! a row of kit/laws/EXCEPTIONS.to-paste -/
section
variable {p : Program} {l : Launch} {e : Env} {R : Room} {s : State} {m : MethodId} {args : Array Value} {below : List Frame} {meth : Method} {c : Code} {H : Heap} {locs : List Loc} {cells slots : Nat} {Q : State → Prop}
variable {mc ms : Nat} {free : Addr → Prop} {A0 A1 : Nat → Prop} {H0 : Heap} {a : Array Value} {pc : Nat} {ls : Array Slot} {st0 rest : List Value}
theorem vx_callq {S SX : Type} {post : Option Nat → S → Prop} {px : SX → Prop} {B : S → State → Prop} {BX : String → SX → State → Prop} {AX : Nat → Prop} (hr : vx_Run p l e R s m args below meth c H locs cells slots mc ms (F0 m pc ls st0) rest (va_Qq post B A1 a) (vx_X px BX AX) free) (hS : va_S A0 H0 H locs) (hA : ∀ q, q < H.size → A1 q → A0 q) (hf : ∀ q, free q → A0 q) (hAX : ∀ q, q < H.size → AX q → A0 q)
    (kx : ∀ (E : String) (ce : Cell) (q9 : Addr) (u : SX) (t : State) (H1 : Heap) (locs1 : List Loc), t.heap = H1 → s.vm.Alike t.vm → px u → BX E u t → H.size ≤ H1.size → (∀ q : Nat, q < H.size → ¬ AX q → H1[q]? = H[q]?) → va_S A0 H0 H1 locs1 → H1[q9]? = some ce → ce.vm = .none → s.vm.findClass E = some ce.cls → vx_W p l e R s m args below meth c H1 locs1 (cells + mc) (slots + ms) Q (F0 m pc ls rest) q9)
    (kk : ∀ (r : Option Nat) (u : S) (t : State) (H1 : Heap) (locs1 : List Loc), t.heap = H1 → s.vm.Alike t.vm → post r u → B u t → H.size ≤ H1.size → (∀ q : Nat, q < H.size → ¬ A1 q → H1[q]? = H[q]?) → va_S A0 H0 H1 locs1 → W p l e R s m args below meth c H1 locs1 (cells + mc) (slots + ms) Q (F0 m (pc + 3) ls (va_rf r :: rest))) : W p l e R s m args below meth c H locs cells slots Q (F0 m pc ls st0) := by
  intro T hT X
  rcases hr T hT X with ⟨v, st₀, t, T', L, h0, X', hL, e1, e2, ⟨⟨r, u, hv, hp, hb⟩, hF⟩, st⟩ | ⟨q, st₀, t, T', L, E, ce, h0, X', hL, e1, e2, ⟨u, hp, hb, hF⟩, hce, hcv, hcl, st⟩
  · cases hv
    obtain ⟨k1, k2, k3⟩ := vx_keep h0 e1 hS hA hf hL hF
    obtain ⟨t2, a1, b1⟩ := kk r u t T'.heap (locs ++ L) e1.symm (by rw [← e2]; exact X'.warmed.alike) hp hb k1 k2 k3 T' rfl X'
    exact ⟨t2, st t2 a1, b1⟩
  · obtain ⟨k1, k2, k3⟩ := vx_keep h0 e1 hS hAX hf hL hF
    obtain ⟨t2, a1, b1⟩ := kx E ce q u t T'.heap (locs ++ L) e1.symm (by rw [← e2]; exact X'.warmed.alike) hp hb k1 k2 k3 (by rw [e1]; exact hce) hcv hcl T' rfl X'
    exact ⟨t2, st.trans a1, b1⟩
end

/-! ===== calls, ends, throws ===== -/
def QI (g : Geo) (post : Int → St → Prop) : Array Value → State → Outcome → State → Prop := va_Qi (S := St) (fun r u => ∃ z, r = iN z ∧ R32 z ∧ post z u) (Bw g) (gA g)
def QL (g : Geo) (post : Int → St → Prop) : Array Value → State → Outcome → State → Prop := va_Ql (S := St) (fun r u => ∃ z, r = lI z ∧ post z u) (Bw g) (gA g)
def QF (g : Geo) (post : UInt32 → St → Prop) : Array Value → State → Outcome → State → Prop := va_Qf (S := St) post (Bw g) (gA g)
def QD (g : Geo) (post : UInt64 → St → Prop) : Array Value → State → Outcome → State → Prop := va_Qd (S := St) post (Bw g) (gA g)
def QV (g : Geo) (post : St → Prop) : Array Value → State → Outcome → State → Prop := va_Qv (S := St) post (Bw g) (gA g)
def QR (g : Geo) (post : Nat → St → Prop) : Array Value → State → Outcome → State → Prop := va_Qq (S := St × Nat) (fun r u => r = some (ga g u.2) ∧ post u.2 u.1) (fun u t => Bw g u.1 t) (gA g)
def XT (g : Geo) (px : String → St → Prop) : String → State → State → Prop := vx_X (S := String × St) (fun u => px u.1 u.2) (fun E u t => E = u.1 ∧ Bw g u.2 t) (gA g)
/-- an exception of class E stands over this frame, thrown at pc -/
def VX (g : Geo) (p : Program) (l : Launch) (e : Env) (R : Room) (s : State) (m : MethodId) (args : Array Value) (below : List Frame) (meth : Method) (c : Code) (nL : Nat) (k n : Nat) (Q : State → Prop) (σ : St) (E : String) (pc : Nat) (lv : List (Nat × Value)) (st : List Value) : Prop :=
  ∀ (H : Heap) (locs : List Loc) (ls : Array Slot) (q : Addr) (ce : Cell), va_P (gD g) vwCl (cells g σ) H → va_S (gA g) s.heap H locs → lv_has ls nL lv → H[q]? = some ce → ce.vm = .none → s.vm.findClass E = some ce.cls → vx_W p l e R s m args below meth c H locs k n Q (F0 m pc ls st) q
section VC
variable {g : Geo} {p : Program} {l : Launch} {e : Env} {R : Room} {s : State} {m : MethodId} {args : Array Value} {below : List Frame} {meth : Method} {c : Code} {cc : ByteArray} {nL : Nat} {own : String} {Ts : List Cond} {k n : Nat} {Q : State → Prop} {σ : St} {pc : Nat} {lv lv' : List (Nat × Value)} {st rest : List Value}
theorem V_lv (h : lv = lv') (kk : V g p l e R s m args below meth c nL k n Q σ pc lv' st) : V g p l e R s m args below meth c nL k n Q σ pc lv st := h ▸ kk
/-- a method's head -/
theorem V_met {y : MethodName} {ws ws' : List Cond} {rm : Room} {maxL : Nat} {ret : Option FieldType} {As : List Value} {Qc : Array Value → State → Outcome → State → Prop} {mc ms : Nat} (hl9 : l.stackTraces = false) (hy : plainName y.cls = true) (hw : ws = Cond.code y cc maxL ret :: ws') (hlen : (lg_sl As).length ≤ maxL)
    (body : ∀ (p : Program) (e : Env) (s : State) (m : MethodId) (below : List Frame) (meth : Method) (c : Code), Cx g p l rm s m As.toArray meth c cc maxL y.cls ws → meth.sig.returnType = ret → meth.name = y.name → V g p l e rm s m As.toArray below meth c maxL 0 0 (MQ below Qc As.toArray s mc ms (gA g)) σ 0 (lv_args 0 As) []) : Met l y ws rm (va_Pc As (World g σ)) Qc mc ms (gA g) := by
  refine Met.ofW (cc := cc) (maxL := maxL) (ret := ret) hy hw ?_
  intro p e s m args below meth c s₁ B hml hv
  obtain ⟨rfl, hP, hk, hg⟩ := hv
  rw [lg_entry_eq]
  exact body p e s m below meth c ⟨⟨B.exec, B.bytes, hml, findClass_of_methodNamed B.named, atoms_spec (ws := ws) B.pre⟩, hk, hg, hl9, B.notSynchronized⟩ B.returns (name_of_methodNamed B.named B.method).1 s.heap [] _ hP va_S.rf (lv_entry As hlen)
theorem V_metX {y : MethodName} {ws ws' : List Cond} {rm : Room} {maxL : Nat} {ret : Option FieldType} {As : List Value} {Qc : Array Value → State → Outcome → State → Prop} {XC : String → State → State → Prop} {mc ms : Nat} (hl9 : l.stackTraces = false) (hy : plainName y.cls = true) (hw : ws = Cond.code y cc maxL ret :: ws') (hlen : (lg_sl As).length ≤ maxL)
    (body : ∀ (p : Program) (e : Env) (s : State) (m : MethodId) (below : List Frame) (meth : Method) (c : Code), Cx g p l rm s m As.toArray meth c cc maxL y.cls ws → (∀ x ∈ c.exceptionTable.toList, False) → meth.sig.returnType = ret → V g p l e rm s m As.toArray below meth c maxL 0 0 (vx_MQ below Qc XC As.toArray s mc ms (gA g)) σ 0 (lv_args 0 As) []) : vx_Met l y ws rm (va_Pc As (World g σ)) Qc XC mc ms (gA g) := by
  refine vx_ofW (cc := cc) (maxL := maxL) (ret := ret) hy hw ?_
  intro p e s m args below meth c s₁ B hml hno hv
  obtain ⟨rfl, hP, hk, hg⟩ := hv
  rw [lg_entry_eq]
  exact body p e s m below meth c ⟨⟨B.exec, B.bytes, hml, findClass_of_methodNamed B.named, atoms_spec (ws := ws) B.pre⟩, hk, hg, hl9, B.notSynchronized⟩ hno B.returns s.heap [] _ hP va_S.rf (lv_entry As hlen)
/-- a method with a table of its own -/
theorem V_metH {y : MethodName} {ws ws' : List Cond} {rm : Room} {maxL : Nat} {ret : Option FieldType} {hh : List (Nat × Nat × Nat × Nat)} {As : List Value} {Qc : Array Value → State → Outcome → State → Prop} {XC : String → State → State → Prop} {mc ms : Nat} (hl9 : l.stackTraces = false) (hy : plainName y.cls = true) (hw : ws = Cond.codeWith y cc maxL ret hh :: ws') (hlen : (lg_sl As).length ≤ maxL)
    (body : ∀ (p : Program) (e : Env) (s : State) (m : MethodId) (below : List Frame) (meth : Method) (c : Code), Cx g p l rm s m As.toArray meth c cc maxL y.cls ws → c.exceptionTable.toList = tableOf hh → meth.sig.returnType = ret → V g p l e rm s m As.toArray below meth c maxL 0 0 (vx_MQ below Qc XC As.toArray s mc ms (gA g)) σ 0 (lv_args 0 As) []) : vx_Met l y ws rm (va_Pc As (World g σ)) Qc XC mc ms (gA g) := by
  refine vx_ofWH (cc := cc) (maxL := maxL) (ret := ret) (hh := hh) hy hw ?_
  intro p e s m args below meth c s₁ B hml hv
  obtain ⟨rfl, hP, hk, hg⟩ := hv
  have hts := atoms_spec (ws := ws) B.pre
  rw [lg_entry_eq]
  exact body p e s m below meth c ⟨⟨B.exec, B.bytes, hml, findClass_of_methodNamed B.named, hts⟩, hk, hg, hl9, B.notSynchronized⟩ (vx_table (x := y) B (hts _ (by rw [hw]; exact List.mem_cons_self))) B.returns s.heap [] _ hP va_S.rf (lv_entry As hlen)

theorem V_iret (X : Cx g p l R s m args meth c cc nL own Ts) {z : Int} {post : Int → St → Prop} {ty : FieldType} (hr : meth.sig.returnType = some ty) (hnw : narrow ty (.int (iN z)) = .int (iN z)) (hz : R32 z) (hp : post z σ) (d : decode cc pc = .ok (.ireturn, 1)) {mc ms : Nat} (hk : k ≤ mc) (hn : n ≤ ms) : V g p l e R s m args below meth c nL k n (MQ below (QI g post) args s mc ms (gA g)) σ pc lv [.int (iN z)] := by
  obtain ⟨⟨hx, hb, hml, hown, hts⟩, hwk, hg, hl9, hlk⟩ := X
  intro H locs ls hP hS hl
  refine W.widen hk hn ?_
  refine W.zret hx hb hr hnw (fun t ht hW => ⟨⟨iN z, σ, rfl, ⟨z, rfl, hz, hp⟩, by unfold Bw; rw [ht]; exact hP⟩, hS.F ht⟩) hS.2.2 d hlk

theorem V_iretX (X : Cx g p l R s m args meth c cc nL own Ts) {XC : String → State → State → Prop} {z : Int} {post : Int → St → Prop} {ty : FieldType} (hr : meth.sig.returnType = some ty) (hnw : narrow ty (.int (iN z)) = .int (iN z)) (hz : R32 z) (hp : post z σ) (d : decode cc pc = .ok (.ireturn, 1)) {mc ms : Nat} (hk : k ≤ mc) (hn : n ≤ ms) : V g p l e R s m args below meth c nL k n (vx_MQ below (QI g post) XC args s mc ms (gA g)) σ pc lv [.int (iN z)] := by
  obtain ⟨⟨hx, hb, hml, hown, hts⟩, hwk, hg, hl9, hlk⟩ := X
  intro H locs ls hP hS hl
  refine W.widen hk hn ?_
  refine vx_ret ?_
  refine W.zret hx hb hr hnw (fun t ht hW => ⟨⟨iN z, σ, rfl, ⟨z, rfl, hz, hp⟩, by unfold Bw; rw [ht]; exact hP⟩, hS.F ht⟩) hS.2.2 d hlk

theorem V_lret (X : Cx g p l R s m args meth c cc nL own Ts) {z : Int} {post : Int → St → Prop} (hr : meth.sig.returnType = some .long) (hp : post z σ) (d : decode cc pc = .ok (.lreturn, 1)) {mc ms : Nat} (hk : k ≤ mc) (hn : n ≤ ms) : V g p l e R s m args below meth c nL k n (MQ below (QL g post) args s mc ms (gA g)) σ pc lv [.long (lI z)] := by
  obtain ⟨⟨hx, hb, hml, hown, hts⟩, hwk, hg, hl9, hlk⟩ := X
  intro H locs ls hP hS hl
  refine W.widen hk hn ?_
  refine W.lret hx hb hr (fun t ht hW => ⟨⟨lI z, σ, rfl, ⟨z, rfl, hp⟩, by unfold Bw; rw [ht]; exact hP⟩, hS.F ht⟩) hS.2.2 d hlk

theorem V_lretX (X : Cx g p l R s m args meth c cc nL own Ts) {XC : String → State → State → Prop} {z : Int} {post : Int → St → Prop} (hr : meth.sig.returnType = some .long) (hp : post z σ) (d : decode cc pc = .ok (.lreturn, 1)) {mc ms : Nat} (hk : k ≤ mc) (hn : n ≤ ms) : V g p l e R s m args below meth c nL k n (vx_MQ below (QL g post) XC args s mc ms (gA g)) σ pc lv [.long (lI z)] := by
  obtain ⟨⟨hx, hb, hml, hown, hts⟩, hwk, hg, hl9, hlk⟩ := X
  intro H locs ls hP hS hl
  refine W.widen hk hn ?_
  refine vx_ret ?_
  refine W.lret hx hb hr (fun t ht hW => ⟨⟨lI z, σ, rfl, ⟨z, rfl, hp⟩, by unfold Bw; rw [ht]; exact hP⟩, hS.F ht⟩) hS.2.2 d hlk

theorem V_fret (X : Cx g p l R s m args meth c cc nL own Ts) {z : UInt32} {post : UInt32 → St → Prop} (hr : meth.sig.returnType = some .float) (hp : post z σ) (d : decode cc pc = .ok (.freturn, 1)) {mc ms : Nat} (hk : k ≤ mc) (hn : n ≤ ms) : V g p l e R s m args below meth c nL k n (MQ below (QF g post) args s mc ms (gA g)) σ pc lv [.float z] := by
  obtain ⟨⟨hx, hb, hml, hown, hts⟩, hwk, hg, hl9, hlk⟩ := X
  intro H locs ls hP hS hl
  refine W.widen hk hn ?_
  refine W.fret hx hb hr (fun t ht hW => ⟨⟨z, σ, rfl, hp, by unfold Bw; rw [ht]; exact hP⟩, hS.F ht⟩) hS.2.2 d hlk

theorem V_fretX (X : Cx g p l R s m args meth c cc nL own Ts) {XC : String → State → State → Prop} {z : UInt32} {post : UInt32 → St → Prop} (hr : meth.sig.returnType = some .float) (hp : post z σ) (d : decode cc pc = .ok (.freturn, 1)) {mc ms : Nat} (hk : k ≤ mc) (hn : n ≤ ms) : V g p l e R s m args below meth c nL k n (vx_MQ below (QF g post) XC args s mc ms (gA g)) σ pc lv [.float z] := by
  obtain ⟨⟨hx, hb, hml, hown, hts⟩, hwk, hg, hl9, hlk⟩ := X
  intro H locs ls hP hS hl
  refine W.widen hk hn ?_
  refine vx_ret ?_
  refine W.fret hx hb hr (fun t ht hW => ⟨⟨z, σ, rfl, hp, by unfold Bw; rw [ht]; exact hP⟩, hS.F ht⟩) hS.2.2 d hlk

theorem V_dret (X : Cx g p l R s m args meth c cc nL own Ts) {z : UInt64} {post : UInt64 → St → Prop} (hr : meth.sig.returnType = some .double) (hp : post z σ) (d : decode cc pc = .ok (.dreturn, 1)) {mc ms : Nat} (hk : k ≤ mc) (hn : n ≤ ms) : V g p l e R s m args below meth c nL k n (MQ below (QD g post) args s mc ms (gA g)) σ pc lv [.double z] := by
  obtain ⟨⟨hx, hb, hml, hown, hts⟩, hwk, hg, hl9, hlk⟩ := X
  intro H locs ls hP hS hl
  refine W.widen hk hn ?_
  refine W.dret hx hb hr (fun t ht hW => ⟨⟨z, σ, rfl, hp, by unfold Bw; rw [ht]; exact hP⟩, hS.F ht⟩) hS.2.2 d hlk

theorem V_dretX (X : Cx g p l R s m args meth c cc nL own Ts) {XC : String → State → State → Prop} {z : UInt64} {post : UInt64 → St → Prop} (hr : meth.sig.returnType = some .double) (hp : post z σ) (d : decode cc pc = .ok (.dreturn, 1)) {mc ms : Nat} (hk : k ≤ mc) (hn : n ≤ ms) : V g p l e R s m args below meth c nL k n (vx_MQ below (QD g post) XC args s mc ms (gA g)) σ pc lv [.double z] := by
  obtain ⟨⟨hx, hb, hml, hown, hts⟩, hwk, hg, hl9, hlk⟩ := X
  intro H locs ls hP hS hl
  refine W.widen hk hn ?_
  refine vx_ret ?_
  refine W.dret hx hb hr (fun t ht hW => ⟨⟨z, σ, rfl, hp, by unfold Bw; rw [ht]; exact hP⟩, hS.F ht⟩) hS.2.2 d hlk

theorem V_vret (X : Cx g p l R s m args meth c cc nL own Ts) {post : St → Prop} (hr : meth.sig.returnType = none) (hp : post σ) (d : decode cc pc = .ok (.return_, 1)) {mc ms : Nat} (hk : k ≤ mc) (hn : n ≤ ms) : V g p l e R s m args below meth c nL k n (MQ below (QV g post) args s mc ms (gA g)) σ pc lv [] := by
  obtain ⟨⟨hx, hb, hml, hown, hts⟩, hwk, hg, hl9, hlk⟩ := X
  intro H locs ls hP hS hl
  refine W.widen hk hn ?_
  refine W.vret hx hb hr (fun t ht hW => ⟨⟨σ, rfl, hp, by unfold Bw; rw [ht]; exact hP⟩, hS.F ht⟩) hS.2.2 d hlk

theorem V_vretX (X : Cx g p l R s m args meth c cc nL own Ts) {XC : String → State → State → Prop} {post : St → Prop} (hr : meth.sig.returnType = none) (hp : post σ) (d : decode cc pc = .ok (.return_, 1)) {mc ms : Nat} (hk : k ≤ mc) (hn : n ≤ ms) : V g p l e R s m args below meth c nL k n (vx_MQ below (QV g post) XC args s mc ms (gA g)) σ pc lv [] := by
  obtain ⟨⟨hx, hb, hml, hown, hts⟩, hwk, hg, hl9, hlk⟩ := X
  intro H locs ls hP hS hl
  refine W.widen hk hn ?_
  refine vx_ret ?_
  refine W.vret hx hb hr (fun t ht hW => ⟨⟨σ, rfl, hp, by unfold Bw; rw [ht]; exact hP⟩, hS.F ht⟩) hS.2.2 d hlk

theorem V_aret (X : Cx g p l R s m args meth c cc nL own Ts) {b : Nat} {post : Nat → St → Prop} {C : String} (hr : meth.sig.returnType = some (.object C)) (hp : post b σ) (d : decode cc pc = .ok (.areturn, 1)) {mc ms : Nat} (hk : k ≤ mc) (hn : n ≤ ms) : V g p l e R s m args below meth c nL k n (MQ below (QR g post) args s mc ms (gA g)) σ pc lv [.ref (ga g b)] := by
  obtain ⟨⟨hx, hb, hml, hown, hts⟩, hwk, hg, hl9, hlk⟩ := X
  intro H locs ls hP hS hl
  refine W.widen hk hn ?_
  refine W.aret hx hb hr (Or.inl ⟨_, rfl⟩) (Or.inr ⟨_, rfl⟩) (fun t ht hW => ⟨⟨some (ga g b), (σ, b), rfl, ⟨rfl, hp⟩, by show va_P (gD g) vwCl (cells g σ) t.heap; rw [ht]; exact hP⟩, hS.F ht⟩) hS.2.2 d hlk

theorem V_aretX (X : Cx g p l R s m args meth c cc nL own Ts) {XC : String → State → State → Prop} {b : Nat} {post : Nat → St → Prop} {C : String} (hr : meth.sig.returnType = some (.object C)) (hp : post b σ) (d : decode cc pc = .ok (.areturn, 1)) {mc ms : Nat} (hk : k ≤ mc) (hn : n ≤ ms) : V g p l e R s m args below meth c nL k n (vx_MQ below (QR g post) XC args s mc ms (gA g)) σ pc lv [.ref (ga g b)] := by
  obtain ⟨⟨hx, hb, hml, hown, hts⟩, hwk, hg, hl9, hlk⟩ := X
  intro H locs ls hP hS hl
  refine W.widen hk hn ?_
  refine vx_ret ?_
  refine W.aret hx hb hr (Or.inl ⟨_, rfl⟩) (Or.inr ⟨_, rfl⟩) (fun t ht hW => ⟨⟨some (ga g b), (σ, b), rfl, ⟨rfl, hp⟩, by show va_P (gD g) vwCl (cells g σ) t.heap; rw [ht]; exact hP⟩, hS.F ht⟩) hS.2.2 d hlk

theorem V_callV_I (X : Cx g p l R s m args meth c cc nL own Ts) {ci N : Nat} {T : u_T} {C : String} (b0 : Nat) (hb0 : b0 < 112) (hkd : kd b0 = ci) (h8 : ci < 8) (hc : vwCl[ci]? = some (C, T, N)) {y : MethodName} {idx maxL mc ms na : Nat} {bytes : ByteArray} {ret : Option FieldType} {ws ws' : List Cond} {rm : Room} {As : List Value} {post : Int → St → Prop} (hM : Met l y ws rm (va_Pc (.ref (ga g b0) :: As) (World g σ)) (QI g post) mc ms (gA g)) (hG : GoodIn Ts (wsV own idx C y ws)) (hw : ws = Cond.code y bytes maxL ret :: ws') (hrc : rm.cells = mc) (hrs : rm.slots = ms) (hd : y.cls = C ∧ y.cls ≠ "java/lang/invoke/MethodHandle" ∧ y.cls ≠ "java/lang/invoke/VarHandle" ∧ (parseMethodDescriptor y.desc).map (fun d => d.parameters.length) = some na) (hR : rm.frames + 1 ≤ R.frames ∧ 8 + (maxL + 11) + rm.locals ≤ R.locals) (hna : As.length = na) (hst : st = As.reverse ++ .ref (ga g b0) :: rest) (hsum : (rest.map fun v => v.category).sum ≤ 8) (hf : k + mc ≤ R.cells ∧ n + ms ≤ R.slots) (d : decode cc pc = .ok (.invokevirtual idx, 3)) (kk : ∀ (z : Int) (u : St), R32 z → post z u → V g p l e R s m args below meth c nL (k + mc) (n + ms) Q u (pc + 3) lv (.int (iN z) :: rest)) : V g p l e R s m args below meth c nL k n Q σ pc lv st := by
  obtain ⟨⟨hx, hb, hml, hown, hts⟩, hwk, hg, hl9, hlk⟩ := X
  intro H locs ls hP hS hl
  have he : (cells g σ)[b0]? = some (ga g b0, .inr (ci, flds g (σ.1 b0) ci b0)) := by rw [cells_at hb0, cL_obj hkd h8]
  have hrun := va_runV (p := p) (l := l) (e := e) (R := R) (s := s) (m := m) (args := args) (below := below) (meth := meth) (c := c) (H := H) (locs := locs) (cells := k) (slots := n) (g := F0 m pc ls st) (rest := rest) (As := As) ⟨hx, hb, hml, hown, hts⟩ hM (cwV na hts hG hw hrc hrs hd hR) ⟨World.blind, va_recv hwk.1 hP (q0 := b0) hc he, fun U hU hW => ⟨rfl, World.call hwk hg hP hS hU hW⟩⟩ rfl hna hl.1 hst (lv_room hsum) d hf
  refine va_calli hrun hS (fun q _ h => h) (fun q h => h) (fun r u t H1 locs1 ht hvm hw hB hz hk1 hS1 => ?_)
  obtain ⟨z, rfl, hz0, hp⟩ := hw
  exact kk z u hz0 hp H1 locs1 ls (by rw [← ht]; exact hB) hS1 hl

theorem V_callV_Ix (X : Cx g p l R s m args meth c cc nL own Ts) {ci N : Nat} {T : u_T} {C : String} (b0 : Nat) (hb0 : b0 < 112) (hkd : kd b0 = ci) (h8 : ci < 8) (hc : vwCl[ci]? = some (C, T, N)) {y : MethodName} {idx maxL mc ms na : Nat} {bytes : ByteArray} {ret : Option FieldType} {ws ws' : List Cond} {rm : Room} {As : List Value} {post : Int → St → Prop} {px : String → St → Prop} (hM : vx_Met l y ws rm (va_Pc (.ref (ga g b0) :: As) (World g σ)) (QI g post) (XT g px) mc ms (gA g)) (hG : GoodIn Ts (wsV own idx C y ws)) (hw : ws = Cond.code y bytes maxL ret :: ws') (hrc : rm.cells = mc) (hrs : rm.slots = ms) (hd : y.cls = C ∧ y.cls ≠ "java/lang/invoke/MethodHandle" ∧ y.cls ≠ "java/lang/invoke/VarHandle" ∧ (parseMethodDescriptor y.desc).map (fun d => d.parameters.length) = some na) (hR : rm.frames + 1 ≤ R.frames ∧ 8 + (maxL + 11) + rm.locals ≤ R.locals) (hna : As.length = na) (hst : st = As.reverse ++ .ref (ga g b0) :: rest) (hsum : (rest.map fun v => v.category).sum ≤ 8) (hf : k + mc ≤ R.cells ∧ n + ms ≤ R.slots) (d : decode cc pc = .ok (.invokevirtual idx, 3)) (kx : ∀ (E : String) (u : St), px E u → VX g p l e R s m args below meth c nL (k + mc) (n + ms) Q u E pc lv rest) (kk : ∀ (z : Int) (u : St), R32 z → post z u → V g p l e R s m args below meth c nL (k + mc) (n + ms) Q u (pc + 3) lv (.int (iN z) :: rest)) : V g p l e R s m args below meth c nL k n Q σ pc lv st := by
  obtain ⟨⟨hx, hb, hml, hown, hts⟩, hwk, hg, hl9, hlk⟩ := X
  intro H locs ls hP hS hl
  have he : (cells g σ)[b0]? = some (ga g b0, .inr (ci, flds g (σ.1 b0) ci b0)) := by rw [cells_at hb0, cL_obj hkd h8]
  have hrun := vx_runV (p := p) (l := l) (e := e) (R := R) (s := s) (m := m) (args := args) (below := below) (meth := meth) (c := c) (H := H) (locs := locs) (cells := k) (slots := n) (g := F0 m pc ls st) (rest := rest) (As := As) ⟨hx, hb, hml, hown, hts⟩ hM (cwV na hts hG hw hrc hrs hd hR) ⟨World.blind, va_recv hwk.1 hP (q0 := b0) hc he, fun U hU hW => ⟨rfl, World.call hwk hg hP hS hU hW⟩⟩ rfl hna hl.1 hst (lv_room hsum) d hf
  refine vx_calli hrun hS (fun q _ h => h) (fun q h => h) (fun q _ h => h) (fun E ce q9 u t H1 locs1 ht hvm hp hB hz hk1 hS1 h1 h2 h3 => ?_) (fun r u t H1 locs1 ht hvm hw hB hz hk1 hS1 => ?_)
  · obtain ⟨E1, u⟩ := u
    obtain ⟨rfl, hB⟩ := hB
    exact kx E u hp H1 locs1 ls q9 ce (by rw [← ht]; exact hB) hS1 hl h1 h2 h3
  · obtain ⟨z, rfl, hz0, hp⟩ := hw
    exact kk z u hz0 hp H1 locs1 ls (by rw [← ht]; exact hB) hS1 hl

theorem V_callS_I (X : Cx g p l R s m args meth c cc nL own Ts) {y : MethodName} {idx maxL mc ms na : Nat} {bytes : ByteArray} {ret : Option FieldType} {ws ws' : List Cond} {rm : Room} {As : List Value} {post : Int → St → Prop} (hM : Met l y ws rm (va_Pc (As) (World g σ)) (QI g post) mc ms (gA g)) (hG : GoodIn Ts (va_wsS own idx y ws)) (hw : ws = Cond.code y bytes maxL ret :: ws') (hrc : rm.cells = mc) (hrs : rm.slots = ms) (hd : y.cls ≠ "java/lang/invoke/MethodHandle" ∧ y.cls ≠ "java/lang/invoke/VarHandle" ∧ (parseMethodDescriptor y.desc).map (fun d => d.parameters.length) = some na) (hR : rm.frames + 1 ≤ R.frames ∧ 8 + (maxL + 11) + rm.locals ≤ R.locals) (hna : As.length = na) (hst : st = As.reverse ++ rest) (hsum : (rest.map fun v => v.category).sum ≤ 8) (hf : k + mc ≤ R.cells ∧ n + ms ≤ R.slots) (d : decode cc pc = .ok (.invokestatic idx, 3)) (kk : ∀ (z : Int) (u : St), R32 z → post z u → V g p l e R s m args below meth c nL (k + mc) (n + ms) Q u (pc + 3) lv (.int (iN z) :: rest)) : V g p l e R s m args below meth c nL k n Q σ pc lv st := by
  obtain ⟨⟨hx, hb, hml, hown, hts⟩, hwk, hg, hl9, hlk⟩ := X
  intro H locs ls hP hS hl
  have hrun := va_runS (p := p) (l := l) (e := e) (R := R) (s := s) (m := m) (args := args) (below := below) (meth := meth) (c := c) (H := H) (locs := locs) (cells := k) (slots := n) (g := F0 m pc ls st) (rest := rest) (As := As) ⟨hx, hb, hml, hown, hts⟩ hM (va_cwS na hts hG hw hrc hrs hd hR) ⟨World.blind, fun U hU hW => ⟨rfl, World.call hwk hg hP hS hU hW⟩⟩ rfl hna hl.1 hst (lv_room hsum) d hf
  refine va_calli hrun hS (fun q _ h => h) (fun q h => h) (fun r u t H1 locs1 ht hvm hw hB hz hk1 hS1 => ?_)
  obtain ⟨z, rfl, hz0, hp⟩ := hw
  exact kk z u hz0 hp H1 locs1 ls (by rw [← ht]; exact hB) hS1 hl

theorem V_callS_Ix (X : Cx g p l R s m args meth c cc nL own Ts) {y : MethodName} {idx maxL mc ms na : Nat} {bytes : ByteArray} {ret : Option FieldType} {ws ws' : List Cond} {rm : Room} {As : List Value} {post : Int → St → Prop} {px : String → St → Prop} (hM : vx_Met l y ws rm (va_Pc (As) (World g σ)) (QI g post) (XT g px) mc ms (gA g)) (hG : GoodIn Ts (va_wsS own idx y ws)) (hw : ws = Cond.code y bytes maxL ret :: ws') (hrc : rm.cells = mc) (hrs : rm.slots = ms) (hd : y.cls ≠ "java/lang/invoke/MethodHandle" ∧ y.cls ≠ "java/lang/invoke/VarHandle" ∧ (parseMethodDescriptor y.desc).map (fun d => d.parameters.length) = some na) (hR : rm.frames + 1 ≤ R.frames ∧ 8 + (maxL + 11) + rm.locals ≤ R.locals) (hna : As.length = na) (hst : st = As.reverse ++ rest) (hsum : (rest.map fun v => v.category).sum ≤ 8) (hf : k + mc ≤ R.cells ∧ n + ms ≤ R.slots) (d : decode cc pc = .ok (.invokestatic idx, 3)) (kx : ∀ (E : String) (u : St), px E u → VX g p l e R s m args below meth c nL (k + mc) (n + ms) Q u E pc lv rest) (kk : ∀ (z : Int) (u : St), R32 z → post z u → V g p l e R s m args below meth c nL (k + mc) (n + ms) Q u (pc + 3) lv (.int (iN z) :: rest)) : V g p l e R s m args below meth c nL k n Q σ pc lv st := by
  obtain ⟨⟨hx, hb, hml, hown, hts⟩, hwk, hg, hl9, hlk⟩ := X
  intro H locs ls hP hS hl
  have hrun := vx_runS (p := p) (l := l) (e := e) (R := R) (s := s) (m := m) (args := args) (below := below) (meth := meth) (c := c) (H := H) (locs := locs) (cells := k) (slots := n) (g := F0 m pc ls st) (rest := rest) (As := As) ⟨hx, hb, hml, hown, hts⟩ hM (va_cwS na hts hG hw hrc hrs hd hR) ⟨World.blind, fun U hU hW => ⟨rfl, World.call hwk hg hP hS hU hW⟩⟩ rfl hna hl.1 hst (lv_room hsum) d hf
  refine vx_calli hrun hS (fun q _ h => h) (fun q h => h) (fun q _ h => h) (fun E ce q9 u t H1 locs1 ht hvm hp hB hz hk1 hS1 h1 h2 h3 => ?_) (fun r u t H1 locs1 ht hvm hw hB hz hk1 hS1 => ?_)
  · obtain ⟨E1, u⟩ := u
    obtain ⟨rfl, hB⟩ := hB
    exact kx E u hp H1 locs1 ls q9 ce (by rw [← ht]; exact hB) hS1 hl h1 h2 h3
  · obtain ⟨z, rfl, hz0, hp⟩ := hw
    exact kk z u hz0 hp H1 locs1 ls (by rw [← ht]; exact hB) hS1 hl

theorem V_callS_Iw (X : Cx g p l R s m args meth c cc nL own Ts) {hh : List (Nat × Nat × Nat × Nat)} {y : MethodName} {idx maxL mc ms na : Nat} {bytes : ByteArray} {ret : Option FieldType} {ws ws' : List Cond} {rm : Room} {As : List Value} {post : Int → St → Prop} {px : String → St → Prop} (hM : vx_Met l y ws rm (va_Pc (As) (World g σ)) (QI g post) (XT g px) mc ms (gA g)) (hG : GoodIn Ts (va_wsS own idx y ws)) (hw : ws = Cond.codeWith y bytes maxL ret hh :: ws') (hrc : rm.cells = mc) (hrs : rm.slots = ms) (hd : y.cls ≠ "java/lang/invoke/MethodHandle" ∧ y.cls ≠ "java/lang/invoke/VarHandle" ∧ (parseMethodDescriptor y.desc).map (fun d => d.parameters.length) = some na) (hR : rm.frames + 1 ≤ R.frames ∧ 8 + (maxL + 11) + rm.locals ≤ R.locals) (hna : As.length = na) (hst : st = As.reverse ++ rest) (hsum : (rest.map fun v => v.category).sum ≤ 8) (hf : k + mc ≤ R.cells ∧ n + ms ≤ R.slots) (d : decode cc pc = .ok (.invokestatic idx, 3)) (kx : ∀ (E : String) (u : St), px E u → VX g p l e R s m args below meth c nL (k + mc) (n + ms) Q u E pc lv rest) (kk : ∀ (z : Int) (u : St), R32 z → post z u → V g p l e R s m args below meth c nL (k + mc) (n + ms) Q u (pc + 3) lv (.int (iN z) :: rest)) : V g p l e R s m args below meth c nL k n Q σ pc lv st := by
  obtain ⟨⟨hx, hb, hml, hown, hts⟩, hwk, hg, hl9, hlk⟩ := X
  intro H locs ls hP hS hl
  have hrun := vx_runSX (p := p) (l := l) (e := e) (R := R) (s := s) (m := m) (args := args) (below := below) (meth := meth) (c := c) (H := H) (locs := locs) (cells := k) (slots := n) (g := F0 m pc ls st) (rest := rest) (As := As) ⟨hx, hb, hml, hown, hts⟩ hM (vx_cwSW na hts hG hw hrc hrs hd hR) ⟨World.blind, fun U hU hW => ⟨rfl, World.call hwk hg hP hS hU hW⟩⟩ rfl hna hl.1 hst (lv_room hsum) d hf
  refine vx_calli hrun hS (fun q _ h => h) (fun q h => h) (fun q _ h => h) (fun E ce q9 u t H1 locs1 ht hvm hp hB hz hk1 hS1 h1 h2 h3 => ?_) (fun r u t H1 locs1 ht hvm hw hB hz hk1 hS1 => ?_)
  · obtain ⟨E1, u⟩ := u
    obtain ⟨rfl, hB⟩ := hB
    exact kx E u hp H1 locs1 ls q9 ce (by rw [← ht]; exact hB) hS1 hl h1 h2 h3
  · obtain ⟨z, rfl, hz0, hp⟩ := hw
    exact kk z u hz0 hp H1 locs1 ls (by rw [← ht]; exact hB) hS1 hl

theorem V_callV_L (X : Cx g p l R s m args meth c cc nL own Ts) {ci N : Nat} {T : u_T} {C : String} (b0 : Nat) (hb0 : b0 < 112) (hkd : kd b0 = ci) (h8 : ci < 8) (hc : vwCl[ci]? = some (C, T, N)) {y : MethodName} {idx maxL mc ms na : Nat} {bytes : ByteArray} {ret : Option FieldType} {ws ws' : List Cond} {rm : Room} {As : List Value} {post : Int → St → Prop} (hM : Met l y ws rm (va_Pc (.ref (ga g b0) :: As) (World g σ)) (QL g post) mc ms (gA g)) (hG : GoodIn Ts (wsV own idx C y ws)) (hw : ws = Cond.code y bytes maxL ret :: ws') (hrc : rm.cells = mc) (hrs : rm.slots = ms) (hd : y.cls = C ∧ y.cls ≠ "java/lang/invoke/MethodHandle" ∧ y.cls ≠ "java/lang/invoke/VarHandle" ∧ (parseMethodDescriptor y.desc).map (fun d => d.parameters.length) = some na) (hR : rm.frames + 1 ≤ R.frames ∧ 8 + (maxL + 11) + rm.locals ≤ R.locals) (hna : As.length = na) (hst : st = As.reverse ++ .ref (ga g b0) :: rest) (hsum : (rest.map fun v => v.category).sum ≤ 8) (hf : k + mc ≤ R.cells ∧ n + ms ≤ R.slots) (d : decode cc pc = .ok (.invokevirtual idx, 3)) (kk : ∀ (z : Int) (u : St), post z u → V g p l e R s m args below meth c nL (k + mc) (n + ms) Q u (pc + 3) lv (.long (lI z) :: rest)) : V g p l e R s m args below meth c nL k n Q σ pc lv st := by
  obtain ⟨⟨hx, hb, hml, hown, hts⟩, hwk, hg, hl9, hlk⟩ := X
  intro H locs ls hP hS hl
  have he : (cells g σ)[b0]? = some (ga g b0, .inr (ci, flds g (σ.1 b0) ci b0)) := by rw [cells_at hb0, cL_obj hkd h8]
  have hrun := va_runV (p := p) (l := l) (e := e) (R := R) (s := s) (m := m) (args := args) (below := below) (meth := meth) (c := c) (H := H) (locs := locs) (cells := k) (slots := n) (g := F0 m pc ls st) (rest := rest) (As := As) ⟨hx, hb, hml, hown, hts⟩ hM (cwV na hts hG hw hrc hrs hd hR) ⟨World.blind, va_recv hwk.1 hP (q0 := b0) hc he, fun U hU hW => ⟨rfl, World.call hwk hg hP hS hU hW⟩⟩ rfl hna hl.1 hst (lv_room hsum) d hf
  refine va_calll hrun hS (fun q _ h => h) (fun q h => h) (fun r u t H1 locs1 ht hvm hw hB hz hk1 hS1 => ?_)
  obtain ⟨z, rfl, hp⟩ := hw
  exact kk z u hp H1 locs1 ls (by rw [← ht]; exact hB) hS1 hl

theorem V_callV_Lx (X : Cx g p l R s m args meth c cc nL own Ts) {ci N : Nat} {T : u_T} {C : String} (b0 : Nat) (hb0 : b0 < 112) (hkd : kd b0 = ci) (h8 : ci < 8) (hc : vwCl[ci]? = some (C, T, N)) {y : MethodName} {idx maxL mc ms na : Nat} {bytes : ByteArray} {ret : Option FieldType} {ws ws' : List Cond} {rm : Room} {As : List Value} {post : Int → St → Prop} {px : String → St → Prop} (hM : vx_Met l y ws rm (va_Pc (.ref (ga g b0) :: As) (World g σ)) (QL g post) (XT g px) mc ms (gA g)) (hG : GoodIn Ts (wsV own idx C y ws)) (hw : ws = Cond.code y bytes maxL ret :: ws') (hrc : rm.cells = mc) (hrs : rm.slots = ms) (hd : y.cls = C ∧ y.cls ≠ "java/lang/invoke/MethodHandle" ∧ y.cls ≠ "java/lang/invoke/VarHandle" ∧ (parseMethodDescriptor y.desc).map (fun d => d.parameters.length) = some na) (hR : rm.frames + 1 ≤ R.frames ∧ 8 + (maxL + 11) + rm.locals ≤ R.locals) (hna : As.length = na) (hst : st = As.reverse ++ .ref (ga g b0) :: rest) (hsum : (rest.map fun v => v.category).sum ≤ 8) (hf : k + mc ≤ R.cells ∧ n + ms ≤ R.slots) (d : decode cc pc = .ok (.invokevirtual idx, 3)) (kx : ∀ (E : String) (u : St), px E u → VX g p l e R s m args below meth c nL (k + mc) (n + ms) Q u E pc lv rest) (kk : ∀ (z : Int) (u : St), post z u → V g p l e R s m args below meth c nL (k + mc) (n + ms) Q u (pc + 3) lv (.long (lI z) :: rest)) : V g p l e R s m args below meth c nL k n Q σ pc lv st := by
  obtain ⟨⟨hx, hb, hml, hown, hts⟩, hwk, hg, hl9, hlk⟩ := X
  intro H locs ls hP hS hl
  have he : (cells g σ)[b0]? = some (ga g b0, .inr (ci, flds g (σ.1 b0) ci b0)) := by rw [cells_at hb0, cL_obj hkd h8]
  have hrun := vx_runV (p := p) (l := l) (e := e) (R := R) (s := s) (m := m) (args := args) (below := below) (meth := meth) (c := c) (H := H) (locs := locs) (cells := k) (slots := n) (g := F0 m pc ls st) (rest := rest) (As := As) ⟨hx, hb, hml, hown, hts⟩ hM (cwV na hts hG hw hrc hrs hd hR) ⟨World.blind, va_recv hwk.1 hP (q0 := b0) hc he, fun U hU hW => ⟨rfl, World.call hwk hg hP hS hU hW⟩⟩ rfl hna hl.1 hst (lv_room hsum) d hf
  refine vx_calll hrun hS (fun q _ h => h) (fun q h => h) (fun q _ h => h) (fun E ce q9 u t H1 locs1 ht hvm hp hB hz hk1 hS1 h1 h2 h3 => ?_) (fun r u t H1 locs1 ht hvm hw hB hz hk1 hS1 => ?_)
  · obtain ⟨E1, u⟩ := u
    obtain ⟨rfl, hB⟩ := hB
    exact kx E u hp H1 locs1 ls q9 ce (by rw [← ht]; exact hB) hS1 hl h1 h2 h3
  · obtain ⟨z, rfl, hp⟩ := hw
    exact kk z u hp H1 locs1 ls (by rw [← ht]; exact hB) hS1 hl

theorem V_callS_L (X : Cx g p l R s m args meth c cc nL own Ts) {y : MethodName} {idx maxL mc ms na : Nat} {bytes : ByteArray} {ret : Option FieldType} {ws ws' : List Cond} {rm : Room} {As : List Value} {post : Int → St → Prop} (hM : Met l y ws rm (va_Pc (As) (World g σ)) (QL g post) mc ms (gA g)) (hG : GoodIn Ts (va_wsS own idx y ws)) (hw : ws = Cond.code y bytes maxL ret :: ws') (hrc : rm.cells = mc) (hrs : rm.slots = ms) (hd : y.cls ≠ "java/lang/invoke/MethodHandle" ∧ y.cls ≠ "java/lang/invoke/VarHandle" ∧ (parseMethodDescriptor y.desc).map (fun d => d.parameters.length) = some na) (hR : rm.frames + 1 ≤ R.frames ∧ 8 + (maxL + 11) + rm.locals ≤ R.locals) (hna : As.length = na) (hst : st = As.reverse ++ rest) (hsum : (rest.map fun v => v.category).sum ≤ 8) (hf : k + mc ≤ R.cells ∧ n + ms ≤ R.slots) (d : decode cc pc = .ok (.invokestatic idx, 3)) (kk : ∀ (z : Int) (u : St), post z u → V g p l e R s m args below meth c nL (k + mc) (n + ms) Q u (pc + 3) lv (.long (lI z) :: rest)) : V g p l e R s m args below meth c nL k n Q σ pc lv st := by
  obtain ⟨⟨hx, hb, hml, hown, hts⟩, hwk, hg, hl9, hlk⟩ := X
  intro H locs ls hP hS hl
  have hrun := va_runS (p := p) (l := l) (e := e) (R := R) (s := s) (m := m) (args := args) (below := below) (meth := meth) (c := c) (H := H) (locs := locs) (cells := k) (slots := n) (g := F0 m pc ls st) (rest := rest) (As := As) ⟨hx, hb, hml, hown, hts⟩ hM (va_cwS na hts hG hw hrc hrs hd hR) ⟨World.blind, fun U hU hW => ⟨rfl, World.call hwk hg hP hS hU hW⟩⟩ rfl hna hl.1 hst (lv_room hsum) d hf
  refine va_calll hrun hS (fun q _ h => h) (fun q h => h) (fun r u t H1 locs1 ht hvm hw hB hz hk1 hS1 => ?_)
  obtain ⟨z, rfl, hp⟩ := hw
  exact kk z u hp H1 locs1 ls (by rw [← ht]; exact hB) hS1 hl

theorem V_callS_Lx (X : Cx g p l R s m args meth c cc nL own Ts) {y : MethodName} {idx maxL mc ms na : Nat} {bytes : ByteArray} {ret : Option FieldType} {ws ws' : List Cond} {rm : Room} {As : List Value} {post : Int → St → Prop} {px : String → St → Prop} (hM : vx_Met l y ws rm (va_Pc (As) (World g σ)) (QL g post) (XT g px) mc ms (gA g)) (hG : GoodIn Ts (va_wsS own idx y ws)) (hw : ws = Cond.code y bytes maxL ret :: ws') (hrc : rm.cells = mc) (hrs : rm.slots = ms) (hd : y.cls ≠ "java/lang/invoke/MethodHandle" ∧ y.cls ≠ "java/lang/invoke/VarHandle" ∧ (parseMethodDescriptor y.desc).map (fun d => d.parameters.length) = some na) (hR : rm.frames + 1 ≤ R.frames ∧ 8 + (maxL + 11) + rm.locals ≤ R.locals) (hna : As.length = na) (hst : st = As.reverse ++ rest) (hsum : (rest.map fun v => v.category).sum ≤ 8) (hf : k + mc ≤ R.cells ∧ n + ms ≤ R.slots) (d : decode cc pc = .ok (.invokestatic idx, 3)) (kx : ∀ (E : String) (u : St), px E u → VX g p l e R s m args below meth c nL (k + mc) (n + ms) Q u E pc lv rest) (kk : ∀ (z : Int) (u : St), post z u → V g p l e R s m args below meth c nL (k + mc) (n + ms) Q u (pc + 3) lv (.long (lI z) :: rest)) : V g p l e R s m args below meth c nL k n Q σ pc lv st := by
  obtain ⟨⟨hx, hb, hml, hown, hts⟩, hwk, hg, hl9, hlk⟩ := X
  intro H locs ls hP hS hl
  have hrun := vx_runS (p := p) (l := l) (e := e) (R := R) (s := s) (m := m) (args := args) (below := below) (meth := meth) (c := c) (H := H) (locs := locs) (cells := k) (slots := n) (g := F0 m pc ls st) (rest := rest) (As := As) ⟨hx, hb, hml, hown, hts⟩ hM (va_cwS na hts hG hw hrc hrs hd hR) ⟨World.blind, fun U hU hW => ⟨rfl, World.call hwk hg hP hS hU hW⟩⟩ rfl hna hl.1 hst (lv_room hsum) d hf
  refine vx_calll hrun hS (fun q _ h => h) (fun q h => h) (fun q _ h => h) (fun E ce q9 u t H1 locs1 ht hvm hp hB hz hk1 hS1 h1 h2 h3 => ?_) (fun r u t H1 locs1 ht hvm hw hB hz hk1 hS1 => ?_)
  · obtain ⟨E1, u⟩ := u
    obtain ⟨rfl, hB⟩ := hB
    exact kx E u hp H1 locs1 ls q9 ce (by rw [← ht]; exact hB) hS1 hl h1 h2 h3
  · obtain ⟨z, rfl, hp⟩ := hw
    exact kk z u hp H1 locs1 ls (by rw [← ht]; exact hB) hS1 hl

theorem V_callS_Lw (X : Cx g p l R s m args meth c cc nL own Ts) {hh : List (Nat × Nat × Nat × Nat)} {y : MethodName} {idx maxL mc ms na : Nat} {bytes : ByteArray} {ret : Option FieldType} {ws ws' : List Cond} {rm : Room} {As : List Value} {post : Int → St → Prop} {px : String → St → Prop} (hM : vx_Met l y ws rm (va_Pc (As) (World g σ)) (QL g post) (XT g px) mc ms (gA g)) (hG : GoodIn Ts (va_wsS own idx y ws)) (hw : ws = Cond.codeWith y bytes maxL ret hh :: ws') (hrc : rm.cells = mc) (hrs : rm.slots = ms) (hd : y.cls ≠ "java/lang/invoke/MethodHandle" ∧ y.cls ≠ "java/lang/invoke/VarHandle" ∧ (parseMethodDescriptor y.desc).map (fun d => d.parameters.length) = some na) (hR : rm.frames + 1 ≤ R.frames ∧ 8 + (maxL + 11) + rm.locals ≤ R.locals) (hna : As.length = na) (hst : st = As.reverse ++ rest) (hsum : (rest.map fun v => v.category).sum ≤ 8) (hf : k + mc ≤ R.cells ∧ n + ms ≤ R.slots) (d : decode cc pc = .ok (.invokestatic idx, 3)) (kx : ∀ (E : String) (u : St), px E u → VX g p l e R s m args below meth c nL (k + mc) (n + ms) Q u E pc lv rest) (kk : ∀ (z : Int) (u : St), post z u → V g p l e R s m args below meth c nL (k + mc) (n + ms) Q u (pc + 3) lv (.long (lI z) :: rest)) : V g p l e R s m args below meth c nL k n Q σ pc lv st := by
  obtain ⟨⟨hx, hb, hml, hown, hts⟩, hwk, hg, hl9, hlk⟩ := X
  intro H locs ls hP hS hl
  have hrun := vx_runSX (p := p) (l := l) (e := e) (R := R) (s := s) (m := m) (args := args) (below := below) (meth := meth) (c := c) (H := H) (locs := locs) (cells := k) (slots := n) (g := F0 m pc ls st) (rest := rest) (As := As) ⟨hx, hb, hml, hown, hts⟩ hM (vx_cwSW na hts hG hw hrc hrs hd hR) ⟨World.blind, fun U hU hW => ⟨rfl, World.call hwk hg hP hS hU hW⟩⟩ rfl hna hl.1 hst (lv_room hsum) d hf
  refine vx_calll hrun hS (fun q _ h => h) (fun q h => h) (fun q _ h => h) (fun E ce q9 u t H1 locs1 ht hvm hp hB hz hk1 hS1 h1 h2 h3 => ?_) (fun r u t H1 locs1 ht hvm hw hB hz hk1 hS1 => ?_)
  · obtain ⟨E1, u⟩ := u
    obtain ⟨rfl, hB⟩ := hB
    exact kx E u hp H1 locs1 ls q9 ce (by rw [← ht]; exact hB) hS1 hl h1 h2 h3
  · obtain ⟨z, rfl, hp⟩ := hw
    exact kk z u hp H1 locs1 ls (by rw [← ht]; exact hB) hS1 hl

theorem V_callV_F (X : Cx g p l R s m args meth c cc nL own Ts) {ci N : Nat} {T : u_T} {C : String} (b0 : Nat) (hb0 : b0 < 112) (hkd : kd b0 = ci) (h8 : ci < 8) (hc : vwCl[ci]? = some (C, T, N)) {y : MethodName} {idx maxL mc ms na : Nat} {bytes : ByteArray} {ret : Option FieldType} {ws ws' : List Cond} {rm : Room} {As : List Value} {post : UInt32 → St → Prop} (hM : Met l y ws rm (va_Pc (.ref (ga g b0) :: As) (World g σ)) (QF g post) mc ms (gA g)) (hG : GoodIn Ts (wsV own idx C y ws)) (hw : ws = Cond.code y bytes maxL ret :: ws') (hrc : rm.cells = mc) (hrs : rm.slots = ms) (hd : y.cls = C ∧ y.cls ≠ "java/lang/invoke/MethodHandle" ∧ y.cls ≠ "java/lang/invoke/VarHandle" ∧ (parseMethodDescriptor y.desc).map (fun d => d.parameters.length) = some na) (hR : rm.frames + 1 ≤ R.frames ∧ 8 + (maxL + 11) + rm.locals ≤ R.locals) (hna : As.length = na) (hst : st = As.reverse ++ .ref (ga g b0) :: rest) (hsum : (rest.map fun v => v.category).sum ≤ 8) (hf : k + mc ≤ R.cells ∧ n + ms ≤ R.slots) (d : decode cc pc = .ok (.invokevirtual idx, 3)) (kk : ∀ (z : UInt32) (u : St), post z u → V g p l e R s m args below meth c nL (k + mc) (n + ms) Q u (pc + 3) lv (.float z :: rest)) : V g p l e R s m args below meth c nL k n Q σ pc lv st := by
  obtain ⟨⟨hx, hb, hml, hown, hts⟩, hwk, hg, hl9, hlk⟩ := X
  intro H locs ls hP hS hl
  have he : (cells g σ)[b0]? = some (ga g b0, .inr (ci, flds g (σ.1 b0) ci b0)) := by rw [cells_at hb0, cL_obj hkd h8]
  have hrun := va_runV (p := p) (l := l) (e := e) (R := R) (s := s) (m := m) (args := args) (below := below) (meth := meth) (c := c) (H := H) (locs := locs) (cells := k) (slots := n) (g := F0 m pc ls st) (rest := rest) (As := As) ⟨hx, hb, hml, hown, hts⟩ hM (cwV na hts hG hw hrc hrs hd hR) ⟨World.blind, va_recv hwk.1 hP (q0 := b0) hc he, fun U hU hW => ⟨rfl, World.call hwk hg hP hS hU hW⟩⟩ rfl hna hl.1 hst (lv_room hsum) d hf
  refine va_callf hrun hS (fun q _ h => h) (fun q h => h) (fun r u t H1 locs1 ht hvm hw hB hz hk1 hS1 => ?_)
  have hp := hw
  exact kk r u hp H1 locs1 ls (by rw [← ht]; exact hB) hS1 hl

theorem V_callV_Fx (X : Cx g p l R s m args meth c cc nL own Ts) {ci N : Nat} {T : u_T} {C : String} (b0 : Nat) (hb0 : b0 < 112) (hkd : kd b0 = ci) (h8 : ci < 8) (hc : vwCl[ci]? = some (C, T, N)) {y : MethodName} {idx maxL mc ms na : Nat} {bytes : ByteArray} {ret : Option FieldType} {ws ws' : List Cond} {rm : Room} {As : List Value} {post : UInt32 → St → Prop} {px : String → St → Prop} (hM : vx_Met l y ws rm (va_Pc (.ref (ga g b0) :: As) (World g σ)) (QF g post) (XT g px) mc ms (gA g)) (hG : GoodIn Ts (wsV own idx C y ws)) (hw : ws = Cond.code y bytes maxL ret :: ws') (hrc : rm.cells = mc) (hrs : rm.slots = ms) (hd : y.cls = C ∧ y.cls ≠ "java/lang/invoke/MethodHandle" ∧ y.cls ≠ "java/lang/invoke/VarHandle" ∧ (parseMethodDescriptor y.desc).map (fun d => d.parameters.length) = some na) (hR : rm.frames + 1 ≤ R.frames ∧ 8 + (maxL + 11) + rm.locals ≤ R.locals) (hna : As.length = na) (hst : st = As.reverse ++ .ref (ga g b0) :: rest) (hsum : (rest.map fun v => v.category).sum ≤ 8) (hf : k + mc ≤ R.cells ∧ n + ms ≤ R.slots) (d : decode cc pc = .ok (.invokevirtual idx, 3)) (kx : ∀ (E : String) (u : St), px E u → VX g p l e R s m args below meth c nL (k + mc) (n + ms) Q u E pc lv rest) (kk : ∀ (z : UInt32) (u : St), post z u → V g p l e R s m args below meth c nL (k + mc) (n + ms) Q u (pc + 3) lv (.float z :: rest)) : V g p l e R s m args below meth c nL k n Q σ pc lv st := by
  obtain ⟨⟨hx, hb, hml, hown, hts⟩, hwk, hg, hl9, hlk⟩ := X
  intro H locs ls hP hS hl
  have he : (cells g σ)[b0]? = some (ga g b0, .inr (ci, flds g (σ.1 b0) ci b0)) := by rw [cells_at hb0, cL_obj hkd h8]
  have hrun := vx_runV (p := p) (l := l) (e := e) (R := R) (s := s) (m := m) (args := args) (below := below) (meth := meth) (c := c) (H := H) (locs := locs) (cells := k) (slots := n) (g := F0 m pc ls st) (rest := rest) (As := As) ⟨hx, hb, hml, hown, hts⟩ hM (cwV na hts hG hw hrc hrs hd hR) ⟨World.blind, va_recv hwk.1 hP (q0 := b0) hc he, fun U hU hW => ⟨rfl, World.call hwk hg hP hS hU hW⟩⟩ rfl hna hl.1 hst (lv_room hsum) d hf
  refine vx_callf hrun hS (fun q _ h => h) (fun q h => h) (fun q _ h => h) (fun E ce q9 u t H1 locs1 ht hvm hp hB hz hk1 hS1 h1 h2 h3 => ?_) (fun r u t H1 locs1 ht hvm hw hB hz hk1 hS1 => ?_)
  · obtain ⟨E1, u⟩ := u
    obtain ⟨rfl, hB⟩ := hB
    exact kx E u hp H1 locs1 ls q9 ce (by rw [← ht]; exact hB) hS1 hl h1 h2 h3
  · have hp := hw
    exact kk r u hp H1 locs1 ls (by rw [← ht]; exact hB) hS1 hl

theorem V_callS_F (X : Cx g p l R s m args meth c cc nL own Ts) {y : MethodName} {idx maxL mc ms na : Nat} {bytes : ByteArray} {ret : Option FieldType} {ws ws' : List Cond} {rm : Room} {As : List Value} {post : UInt32 → St → Prop} (hM : Met l y ws rm (va_Pc (As) (World g σ)) (QF g post) mc ms (gA g)) (hG : GoodIn Ts (va_wsS own idx y ws)) (hw : ws = Cond.code y bytes maxL ret :: ws') (hrc : rm.cells = mc) (hrs : rm.slots = ms) (hd : y.cls ≠ "java/lang/invoke/MethodHandle" ∧ y.cls ≠ "java/lang/invoke/VarHandle" ∧ (parseMethodDescriptor y.desc).map (fun d => d.parameters.length) = some na) (hR : rm.frames + 1 ≤ R.frames ∧ 8 + (maxL + 11) + rm.locals ≤ R.locals) (hna : As.length = na) (hst : st = As.reverse ++ rest) (hsum : (rest.map fun v => v.category).sum ≤ 8) (hf : k + mc ≤ R.cells ∧ n + ms ≤ R.slots) (d : decode cc pc = .ok (.invokestatic idx, 3)) (kk : ∀ (z : UInt32) (u : St), post z u → V g p l e R s m args below meth c nL (k + mc) (n + ms) Q u (pc + 3) lv (.float z :: rest)) : V g p l e R s m args below meth c nL k n Q σ pc lv st := by
  obtain ⟨⟨hx, hb, hml, hown, hts⟩, hwk, hg, hl9, hlk⟩ := X
  intro H locs ls hP hS hl
  have hrun := va_runS (p := p) (l := l) (e := e) (R := R) (s := s) (m := m) (args := args) (below := below) (meth := meth) (c := c) (H := H) (locs := locs) (cells := k) (slots := n) (g := F0 m pc ls st) (rest := rest) (As := As) ⟨hx, hb, hml, hown, hts⟩ hM (va_cwS na hts hG hw hrc hrs hd hR) ⟨World.blind, fun U hU hW => ⟨rfl, World.call hwk hg hP hS hU hW⟩⟩ rfl hna hl.1 hst (lv_room hsum) d hf
  refine va_callf hrun hS (fun q _ h => h) (fun q h => h) (fun r u t H1 locs1 ht hvm hw hB hz hk1 hS1 => ?_)
  have hp := hw
  exact kk r u hp H1 locs1 ls (by rw [← ht]; exact hB) hS1 hl

theorem V_callS_Fx (X : Cx g p l R s m args meth c cc nL own Ts) {y : MethodName} {idx maxL mc ms na : Nat} {bytes : ByteArray} {ret : Option FieldType} {ws ws' : List Cond} {rm : Room} {As : List Value} {post : UInt32 → St → Prop} {px : String → St → Prop} (hM : vx_Met l y ws rm (va_Pc (As) (World g σ)) (QF g post) (XT g px) mc ms (gA g)) (hG : GoodIn Ts (va_wsS own idx y ws)) (hw : ws = Cond.code y bytes maxL ret :: ws') (hrc : rm.cells = mc) (hrs : rm.slots = ms) (hd : y.cls ≠ "java/lang/invoke/MethodHandle" ∧ y.cls ≠ "java/lang/invoke/VarHandle" ∧ (parseMethodDescriptor y.desc).map (fun d => d.parameters.length) = some na) (hR : rm.frames + 1 ≤ R.frames ∧ 8 + (maxL + 11) + rm.locals ≤ R.locals) (hna : As.length = na) (hst : st = As.reverse ++ rest) (hsum : (rest.map fun v => v.category).sum ≤ 8) (hf : k + mc ≤ R.cells ∧ n + ms ≤ R.slots) (d : decode cc pc = .ok (.invokestatic idx, 3)) (kx : ∀ (E : String) (u : St), px E u → VX g p l e R s m args below meth c nL (k + mc) (n + ms) Q u E pc lv rest) (kk : ∀ (z : UInt32) (u : St), post z u → V g p l e R s m args below meth c nL (k + mc) (n + ms) Q u (pc + 3) lv (.float z :: rest)) : V g p l e R s m args below meth c nL k n Q σ pc lv st := by
  obtain ⟨⟨hx, hb, hml, hown, hts⟩, hwk, hg, hl9, hlk⟩ := X
  intro H locs ls hP hS hl
  have hrun := vx_runS (p := p) (l := l) (e := e) (R := R) (s := s) (m := m) (args := args) (below := below) (meth := meth) (c := c) (H := H) (locs := locs) (cells := k) (slots := n) (g := F0 m pc ls st) (rest := rest) (As := As) ⟨hx, hb, hml, hown, hts⟩ hM (va_cwS na hts hG hw hrc hrs hd hR) ⟨World.blind, fun U hU hW => ⟨rfl, World.call hwk hg hP hS hU hW⟩⟩ rfl hna hl.1 hst (lv_room hsum) d hf
  refine vx_callf hrun hS (fun q _ h => h) (fun q h => h) (fun q _ h => h) (fun E ce q9 u t H1 locs1 ht hvm hp hB hz hk1 hS1 h1 h2 h3 => ?_) (fun r u t H1 locs1 ht hvm hw hB hz hk1 hS1 => ?_)
  · obtain ⟨E1, u⟩ := u
    obtain ⟨rfl, hB⟩ := hB
    exact kx E u hp H1 locs1 ls q9 ce (by rw [← ht]; exact hB) hS1 hl h1 h2 h3
  · have hp := hw
    exact kk r u hp H1 locs1 ls (by rw [← ht]; exact hB) hS1 hl

theorem V_callS_Fw (X : Cx g p l R s m args meth c cc nL own Ts) {hh : List (Nat × Nat × Nat × Nat)} {y : MethodName} {idx maxL mc ms na : Nat} {bytes : ByteArray} {ret : Option FieldType} {ws ws' : List Cond} {rm : Room} {As : List Value} {post : UInt32 → St → Prop} {px : String → St → Prop} (hM : vx_Met l y ws rm (va_Pc (As) (World g σ)) (QF g post) (XT g px) mc ms (gA g)) (hG : GoodIn Ts (va_wsS own idx y ws)) (hw : ws = Cond.codeWith y bytes maxL ret hh :: ws') (hrc : rm.cells = mc) (hrs : rm.slots = ms) (hd : y.cls ≠ "java/lang/invoke/MethodHandle" ∧ y.cls ≠ "java/lang/invoke/VarHandle" ∧ (parseMethodDescriptor y.desc).map (fun d => d.parameters.length) = some na) (hR : rm.frames + 1 ≤ R.frames ∧ 8 + (maxL + 11) + rm.locals ≤ R.locals) (hna : As.length = na) (hst : st = As.reverse ++ rest) (hsum : (rest.map fun v => v.category).sum ≤ 8) (hf : k + mc ≤ R.cells ∧ n + ms ≤ R.slots) (d : decode cc pc = .ok (.invokestatic idx, 3)) (kx : ∀ (E : String) (u : St), px E u → VX g p l e R s m args below meth c nL (k + mc) (n + ms) Q u E pc lv rest) (kk : ∀ (z : UInt32) (u : St), post z u → V g p l e R s m args below meth c nL (k + mc) (n + ms) Q u (pc + 3) lv (.float z :: rest)) : V g p l e R s m args below meth c nL k n Q σ pc lv st := by
  obtain ⟨⟨hx, hb, hml, hown, hts⟩, hwk, hg, hl9, hlk⟩ := X
  intro H locs ls hP hS hl
  have hrun := vx_runSX (p := p) (l := l) (e := e) (R := R) (s := s) (m := m) (args := args) (below := below) (meth := meth) (c := c) (H := H) (locs := locs) (cells := k) (slots := n) (g := F0 m pc ls st) (rest := rest) (As := As) ⟨hx, hb, hml, hown, hts⟩ hM (vx_cwSW na hts hG hw hrc hrs hd hR) ⟨World.blind, fun U hU hW => ⟨rfl, World.call hwk hg hP hS hU hW⟩⟩ rfl hna hl.1 hst (lv_room hsum) d hf
  refine vx_callf hrun hS (fun q _ h => h) (fun q h => h) (fun q _ h => h) (fun E ce q9 u t H1 locs1 ht hvm hp hB hz hk1 hS1 h1 h2 h3 => ?_) (fun r u t H1 locs1 ht hvm hw hB hz hk1 hS1 => ?_)
  · obtain ⟨E1, u⟩ := u
    obtain ⟨rfl, hB⟩ := hB
    exact kx E u hp H1 locs1 ls q9 ce (by rw [← ht]; exact hB) hS1 hl h1 h2 h3
  · have hp := hw
    exact kk r u hp H1 locs1 ls (by rw [← ht]; exact hB) hS1 hl

theorem V_callV_D (X : Cx g p l R s m args meth c cc nL own Ts) {ci N : Nat} {T : u_T} {C : String} (b0 : Nat) (hb0 : b0 < 112) (hkd : kd b0 = ci) (h8 : ci < 8) (hc : vwCl[ci]? = some (C, T, N)) {y : MethodName} {idx maxL mc ms na : Nat} {bytes : ByteArray} {ret : Option FieldType} {ws ws' : List Cond} {rm : Room} {As : List Value} {post : UInt64 → St → Prop} (hM : Met l y ws rm (va_Pc (.ref (ga g b0) :: As) (World g σ)) (QD g post) mc ms (gA g)) (hG : GoodIn Ts (wsV own idx C y ws)) (hw : ws = Cond.code y bytes maxL ret :: ws') (hrc : rm.cells = mc) (hrs : rm.slots = ms) (hd : y.cls = C ∧ y.cls ≠ "java/lang/invoke/MethodHandle" ∧ y.cls ≠ "java/lang/invoke/VarHandle" ∧ (parseMethodDescriptor y.desc).map (fun d => d.parameters.length) = some na) (hR : rm.frames + 1 ≤ R.frames ∧ 8 + (maxL + 11) + rm.locals ≤ R.locals) (hna : As.length = na) (hst : st = As.reverse ++ .ref (ga g b0) :: rest) (hsum : (rest.map fun v => v.category).sum ≤ 8) (hf : k + mc ≤ R.cells ∧ n + ms ≤ R.slots) (d : decode cc pc = .ok (.invokevirtual idx, 3)) (kk : ∀ (z : UInt64) (u : St), post z u → V g p l e R s m args below meth c nL (k + mc) (n + ms) Q u (pc + 3) lv (.double z :: rest)) : V g p l e R s m args below meth c nL k n Q σ pc lv st := by
  obtain ⟨⟨hx, hb, hml, hown, hts⟩, hwk, hg, hl9, hlk⟩ := X
  intro H locs ls hP hS hl
  have he : (cells g σ)[b0]? = some (ga g b0, .inr (ci, flds g (σ.1 b0) ci b0)) := by rw [cells_at hb0, cL_obj hkd h8]
  have hrun := va_runV (p := p) (l := l) (e := e) (R := R) (s := s) (m := m) (args := args) (below := below) (meth := meth) (c := c) (H := H) (locs := locs) (cells := k) (slots := n) (g := F0 m pc ls st) (rest := rest) (As := As) ⟨hx, hb, hml, hown, hts⟩ hM (cwV na hts hG hw hrc hrs hd hR) ⟨World.blind, va_recv hwk.1 hP (q0 := b0) hc he, fun U hU hW => ⟨rfl, World.call hwk hg hP hS hU hW⟩⟩ rfl hna hl.1 hst (lv_room hsum) d hf
  refine va_calld hrun hS (fun q _ h => h) (fun q h => h) (fun r u t H1 locs1 ht hvm hw hB hz hk1 hS1 => ?_)
  have hp := hw
  exact kk r u hp H1 locs1 ls (by rw [← ht]; exact hB) hS1 hl

theorem V_callV_Dx (X : Cx g p l R s m args meth c cc nL own Ts) {ci N : Nat} {T : u_T} {C : String} (b0 : Nat) (hb0 : b0 < 112) (hkd : kd b0 = ci) (h8 : ci < 8) (hc : vwCl[ci]? = some (C, T, N)) {y : MethodName} {idx maxL mc ms na : Nat} {bytes : ByteArray} {ret : Option FieldType} {ws ws' : List Cond} {rm : Room} {As : List Value} {post : UInt64 → St → Prop} {px : String → St → Prop} (hM : vx_Met l y ws rm (va_Pc (.ref (ga g b0) :: As) (World g σ)) (QD g post) (XT g px) mc ms (gA g)) (hG : GoodIn Ts (wsV own idx C y ws)) (hw : ws = Cond.code y bytes maxL ret :: ws') (hrc : rm.cells = mc) (hrs : rm.slots = ms) (hd : y.cls = C ∧ y.cls ≠ "java/lang/invoke/MethodHandle" ∧ y.cls ≠ "java/lang/invoke/VarHandle" ∧ (parseMethodDescriptor y.desc).map (fun d => d.parameters.length) = some na) (hR : rm.frames + 1 ≤ R.frames ∧ 8 + (maxL + 11) + rm.locals ≤ R.locals) (hna : As.length = na) (hst : st = As.reverse ++ .ref (ga g b0) :: rest) (hsum : (rest.map fun v => v.category).sum ≤ 8) (hf : k + mc ≤ R.cells ∧ n + ms ≤ R.slots) (d : decode cc pc = .ok (.invokevirtual idx, 3)) (kx : ∀ (E : String) (u : St), px E u → VX g p l e R s m args below meth c nL (k + mc) (n + ms) Q u E pc lv rest) (kk : ∀ (z : UInt64) (u : St), post z u → V g p l e R s m args below meth c nL (k + mc) (n + ms) Q u (pc + 3) lv (.double z :: rest)) : V g p l e R s m args below meth c nL k n Q σ pc lv st := by
  obtain ⟨⟨hx, hb, hml, hown, hts⟩, hwk, hg, hl9, hlk⟩ := X
  intro H locs ls hP hS hl
  have he : (cells g σ)[b0]? = some (ga g b0, .inr (ci, flds g (σ.1 b0) ci b0)) := by rw [cells_at hb0, cL_obj hkd h8]
  have hrun := vx_runV (p := p) (l := l) (e := e) (R := R) (s := s) (m := m) (args := args) (below := below) (meth := meth) (c := c) (H := H) (locs := locs) (cells := k) (slots := n) (g := F0 m pc ls st) (rest := rest) (As := As) ⟨hx, hb, hml, hown, hts⟩ hM (cwV na hts hG hw hrc hrs hd hR) ⟨World.blind, va_recv hwk.1 hP (q0 := b0) hc he, fun U hU hW => ⟨rfl, World.call hwk hg hP hS hU hW⟩⟩ rfl hna hl.1 hst (lv_room hsum) d hf
  refine vx_calld hrun hS (fun q _ h => h) (fun q h => h) (fun q _ h => h) (fun E ce q9 u t H1 locs1 ht hvm hp hB hz hk1 hS1 h1 h2 h3 => ?_) (fun r u t H1 locs1 ht hvm hw hB hz hk1 hS1 => ?_)
  · obtain ⟨E1, u⟩ := u
    obtain ⟨rfl, hB⟩ := hB
    exact kx E u hp H1 locs1 ls q9 ce (by rw [← ht]; exact hB) hS1 hl h1 h2 h3
  · have hp := hw
    exact kk r u hp H1 locs1 ls (by rw [← ht]; exact hB) hS1 hl

theorem V_callS_D (X : Cx g p l R s m args meth c cc nL own Ts) {y : MethodName} {idx maxL mc ms na : Nat} {bytes : ByteArray} {ret : Option FieldType} {ws ws' : List Cond} {rm : Room} {As : List Value} {post : UInt64 → St → Prop} (hM : Met l y ws rm (va_Pc (As) (World g σ)) (QD g post) mc ms (gA g)) (hG : GoodIn Ts (va_wsS own idx y ws)) (hw : ws = Cond.code y bytes maxL ret :: ws') (hrc : rm.cells = mc) (hrs : rm.slots = ms) (hd : y.cls ≠ "java/lang/invoke/MethodHandle" ∧ y.cls ≠ "java/lang/invoke/VarHandle" ∧ (parseMethodDescriptor y.desc).map (fun d => d.parameters.length) = some na) (hR : rm.frames + 1 ≤ R.frames ∧ 8 + (maxL + 11) + rm.locals ≤ R.locals) (hna : As.length = na) (hst : st = As.reverse ++ rest) (hsum : (rest.map fun v => v.category).sum ≤ 8) (hf : k + mc ≤ R.cells ∧ n + ms ≤ R.slots) (d : decode cc pc = .ok (.invokestatic idx, 3)) (kk : ∀ (z : UInt64) (u : St), post z u → V g p l e R s m args below meth c nL (k + mc) (n + ms) Q u (pc + 3) lv (.double z :: rest)) : V g p l e R s m args below meth c nL k n Q σ pc lv st := by
  obtain ⟨⟨hx, hb, hml, hown, hts⟩, hwk, hg, hl9, hlk⟩ := X
  intro H locs ls hP hS hl
  have hrun := va_runS (p := p) (l := l) (e := e) (R := R) (s := s) (m := m) (args := args) (below := below) (meth := meth) (c := c) (H := H) (locs := locs) (cells := k) (slots := n) (g := F0 m pc ls st) (rest := rest) (As := As) ⟨hx, hb, hml, hown, hts⟩ hM (va_cwS na hts hG hw hrc hrs hd hR) ⟨World.blind, fun U hU hW => ⟨rfl, World.call hwk hg hP hS hU hW⟩⟩ rfl hna hl.1 hst (lv_room hsum) d hf
  refine va_calld hrun hS (fun q _ h => h) (fun q h => h) (fun r u t H1 locs1 ht hvm hw hB hz hk1 hS1 => ?_)
  have hp := hw
  exact kk r u hp H1 locs1 ls (by rw [← ht]; exact hB) hS1 hl

theorem V_callS_Dx (X : Cx g p l R s m args meth c cc nL own Ts) {y : MethodName} {idx maxL mc ms na : Nat} {bytes : ByteArray} {ret : Option FieldType} {ws ws' : List Cond} {rm : Room} {As : List Value} {post : UInt64 → St → Prop} {px : String → St → Prop} (hM : vx_Met l y ws rm (va_Pc (As) (World g σ)) (QD g post) (XT g px) mc ms (gA g)) (hG : GoodIn Ts (va_wsS own idx y ws)) (hw : ws = Cond.code y bytes maxL ret :: ws') (hrc : rm.cells = mc) (hrs : rm.slots = ms) (hd : y.cls ≠ "java/lang/invoke/MethodHandle" ∧ y.cls ≠ "java/lang/invoke/VarHandle" ∧ (parseMethodDescriptor y.desc).map (fun d => d.parameters.length) = some na) (hR : rm.frames + 1 ≤ R.frames ∧ 8 + (maxL + 11) + rm.locals ≤ R.locals) (hna : As.length = na) (hst : st = As.reverse ++ rest) (hsum : (rest.map fun v => v.category).sum ≤ 8) (hf : k + mc ≤ R.cells ∧ n + ms ≤ R.slots) (d : decode cc pc = .ok (.invokestatic idx, 3)) (kx : ∀ (E : String) (u : St), px E u → VX g p l e R s m args below meth c nL (k + mc) (n + ms) Q u E pc lv rest) (kk : ∀ (z : UInt64) (u : St), post z u → V g p l e R s m args below meth c nL (k + mc) (n + ms) Q u (pc + 3) lv (.double z :: rest)) : V g p l e R s m args below meth c nL k n Q σ pc lv st := by
  obtain ⟨⟨hx, hb, hml, hown, hts⟩, hwk, hg, hl9, hlk⟩ := X
  intro H locs ls hP hS hl
  have hrun := vx_runS (p := p) (l := l) (e := e) (R := R) (s := s) (m := m) (args := args) (below := below) (meth := meth) (c := c) (H := H) (locs := locs) (cells := k) (slots := n) (g := F0 m pc ls st) (rest := rest) (As := As) ⟨hx, hb, hml, hown, hts⟩ hM (va_cwS na hts hG hw hrc hrs hd hR) ⟨World.blind, fun U hU hW => ⟨rfl, World.call hwk hg hP hS hU hW⟩⟩ rfl hna hl.1 hst (lv_room hsum) d hf
  refine vx_calld hrun hS (fun q _ h => h) (fun q h => h) (fun q _ h => h) (fun E ce q9 u t H1 locs1 ht hvm hp hB hz hk1 hS1 h1 h2 h3 => ?_) (fun r u t H1 locs1 ht hvm hw hB hz hk1 hS1 => ?_)
  · obtain ⟨E1, u⟩ := u
    obtain ⟨rfl, hB⟩ := hB
    exact kx E u hp H1 locs1 ls q9 ce (by rw [← ht]; exact hB) hS1 hl h1 h2 h3
  · have hp := hw
    exact kk r u hp H1 locs1 ls (by rw [← ht]; exact hB) hS1 hl

theorem V_callS_Dw (X : Cx g p l R s m args meth c cc nL own Ts) {hh : List (Nat × Nat × Nat × Nat)} {y : MethodName} {idx maxL mc ms na : Nat} {bytes : ByteArray} {ret : Option FieldType} {ws ws' : List Cond} {rm : Room} {As : List Value} {post : UInt64 → St → Prop} {px : String → St → Prop} (hM : vx_Met l y ws rm (va_Pc (As) (World g σ)) (QD g post) (XT g px) mc ms (gA g)) (hG : GoodIn Ts (va_wsS own idx y ws)) (hw : ws = Cond.codeWith y bytes maxL ret hh :: ws') (hrc : rm.cells = mc) (hrs : rm.slots = ms) (hd : y.cls ≠ "java/lang/invoke/MethodHandle" ∧ y.cls ≠ "java/lang/invoke/VarHandle" ∧ (parseMethodDescriptor y.desc).map (fun d => d.parameters.length) = some na) (hR : rm.frames + 1 ≤ R.frames ∧ 8 + (maxL + 11) + rm.locals ≤ R.locals) (hna : As.length = na) (hst : st = As.reverse ++ rest) (hsum : (rest.map fun v => v.category).sum ≤ 8) (hf : k + mc ≤ R.cells ∧ n + ms ≤ R.slots) (d : decode cc pc = .ok (.invokestatic idx, 3)) (kx : ∀ (E : String) (u : St), px E u → VX g p l e R s m args below meth c nL (k + mc) (n + ms) Q u E pc lv rest) (kk : ∀ (z : UInt64) (u : St), post z u → V g p l e R s m args below meth c nL (k + mc) (n + ms) Q u (pc + 3) lv (.double z :: rest)) : V g p l e R s m args below meth c nL k n Q σ pc lv st := by
  obtain ⟨⟨hx, hb, hml, hown, hts⟩, hwk, hg, hl9, hlk⟩ := X
  intro H locs ls hP hS hl
  have hrun := vx_runSX (p := p) (l := l) (e := e) (R := R) (s := s) (m := m) (args := args) (below := below) (meth := meth) (c := c) (H := H) (locs := locs) (cells := k) (slots := n) (g := F0 m pc ls st) (rest := rest) (As := As) ⟨hx, hb, hml, hown, hts⟩ hM (vx_cwSW na hts hG hw hrc hrs hd hR) ⟨World.blind, fun U hU hW => ⟨rfl, World.call hwk hg hP hS hU hW⟩⟩ rfl hna hl.1 hst (lv_room hsum) d hf
  refine vx_calld hrun hS (fun q _ h => h) (fun q h => h) (fun q _ h => h) (fun E ce q9 u t H1 locs1 ht hvm hp hB hz hk1 hS1 h1 h2 h3 => ?_) (fun r u t H1 locs1 ht hvm hw hB hz hk1 hS1 => ?_)
  · obtain ⟨E1, u⟩ := u
    obtain ⟨rfl, hB⟩ := hB
    exact kx E u hp H1 locs1 ls q9 ce (by rw [← ht]; exact hB) hS1 hl h1 h2 h3
  · have hp := hw
    exact kk r u hp H1 locs1 ls (by rw [← ht]; exact hB) hS1 hl

theorem V_callV_V (X : Cx g p l R s m args meth c cc nL own Ts) {ci N : Nat} {T : u_T} {C : String} (b0 : Nat) (hb0 : b0 < 112) (hkd : kd b0 = ci) (h8 : ci < 8) (hc : vwCl[ci]? = some (C, T, N)) {y : MethodName} {idx maxL mc ms na : Nat} {bytes : ByteArray} {ret : Option FieldType} {ws ws' : List Cond} {rm : Room} {As : List Value} {post : St → Prop} (hM : Met l y ws rm (va_Pc (.ref (ga g b0) :: As) (World g σ)) (QV g post) mc ms (gA g)) (hG : GoodIn Ts (wsV own idx C y ws)) (hw : ws = Cond.code y bytes maxL ret :: ws') (hrc : rm.cells = mc) (hrs : rm.slots = ms) (hd : y.cls = C ∧ y.cls ≠ "java/lang/invoke/MethodHandle" ∧ y.cls ≠ "java/lang/invoke/VarHandle" ∧ (parseMethodDescriptor y.desc).map (fun d => d.parameters.length) = some na) (hR : rm.frames + 1 ≤ R.frames ∧ 8 + (maxL + 11) + rm.locals ≤ R.locals) (hna : As.length = na) (hst : st = As.reverse ++ .ref (ga g b0) :: rest) (hsum : (rest.map fun v => v.category).sum ≤ 8) (hf : k + mc ≤ R.cells ∧ n + ms ≤ R.slots) (d : decode cc pc = .ok (.invokevirtual idx, 3)) (kk : ∀ (u : St), post u → V g p l e R s m args below meth c nL (k + mc) (n + ms) Q u (pc + 3) lv (rest)) : V g p l e R s m args below meth c nL k n Q σ pc lv st := by
  obtain ⟨⟨hx, hb, hml, hown, hts⟩, hwk, hg, hl9, hlk⟩ := X
  intro H locs ls hP hS hl
  have he : (cells g σ)[b0]? = some (ga g b0, .inr (ci, flds g (σ.1 b0) ci b0)) := by rw [cells_at hb0, cL_obj hkd h8]
  have hrun := va_runV (p := p) (l := l) (e := e) (R := R) (s := s) (m := m) (args := args) (below := below) (meth := meth) (c := c) (H := H) (locs := locs) (cells := k) (slots := n) (g := F0 m pc ls st) (rest := rest) (As := As) ⟨hx, hb, hml, hown, hts⟩ hM (cwV na hts hG hw hrc hrs hd hR) ⟨World.blind, va_recv hwk.1 hP (q0 := b0) hc he, fun U hU hW => ⟨rfl, World.call hwk hg hP hS hU hW⟩⟩ rfl hna hl.1 hst (lv_room hsum) d hf
  refine va_callv hrun hS (fun q _ h => h) (fun q h => h) (fun u t H1 locs1 ht hvm hw hB hz hk1 hS1 => ?_)
  have hp := hw
  exact kk u hp H1 locs1 ls (by rw [← ht]; exact hB) hS1 hl

theorem V_callV_Vx (X : Cx g p l R s m args meth c cc nL own Ts) {ci N : Nat} {T : u_T} {C : String} (b0 : Nat) (hb0 : b0 < 112) (hkd : kd b0 = ci) (h8 : ci < 8) (hc : vwCl[ci]? = some (C, T, N)) {y : MethodName} {idx maxL mc ms na : Nat} {bytes : ByteArray} {ret : Option FieldType} {ws ws' : List Cond} {rm : Room} {As : List Value} {post : St → Prop} {px : String → St → Prop} (hM : vx_Met l y ws rm (va_Pc (.ref (ga g b0) :: As) (World g σ)) (QV g post) (XT g px) mc ms (gA g)) (hG : GoodIn Ts (wsV own idx C y ws)) (hw : ws = Cond.code y bytes maxL ret :: ws') (hrc : rm.cells = mc) (hrs : rm.slots = ms) (hd : y.cls = C ∧ y.cls ≠ "java/lang/invoke/MethodHandle" ∧ y.cls ≠ "java/lang/invoke/VarHandle" ∧ (parseMethodDescriptor y.desc).map (fun d => d.parameters.length) = some na) (hR : rm.frames + 1 ≤ R.frames ∧ 8 + (maxL + 11) + rm.locals ≤ R.locals) (hna : As.length = na) (hst : st = As.reverse ++ .ref (ga g b0) :: rest) (hsum : (rest.map fun v => v.category).sum ≤ 8) (hf : k + mc ≤ R.cells ∧ n + ms ≤ R.slots) (d : decode cc pc = .ok (.invokevirtual idx, 3)) (kx : ∀ (E : String) (u : St), px E u → VX g p l e R s m args below meth c nL (k + mc) (n + ms) Q u E pc lv rest) (kk : ∀ (u : St), post u → V g p l e R s m args below meth c nL (k + mc) (n + ms) Q u (pc + 3) lv (rest)) : V g p l e R s m args below meth c nL k n Q σ pc lv st := by
  obtain ⟨⟨hx, hb, hml, hown, hts⟩, hwk, hg, hl9, hlk⟩ := X
  intro H locs ls hP hS hl
  have he : (cells g σ)[b0]? = some (ga g b0, .inr (ci, flds g (σ.1 b0) ci b0)) := by rw [cells_at hb0, cL_obj hkd h8]
  have hrun := vx_runV (p := p) (l := l) (e := e) (R := R) (s := s) (m := m) (args := args) (below := below) (meth := meth) (c := c) (H := H) (locs := locs) (cells := k) (slots := n) (g := F0 m pc ls st) (rest := rest) (As := As) ⟨hx, hb, hml, hown, hts⟩ hM (cwV na hts hG hw hrc hrs hd hR) ⟨World.blind, va_recv hwk.1 hP (q0 := b0) hc he, fun U hU hW => ⟨rfl, World.call hwk hg hP hS hU hW⟩⟩ rfl hna hl.1 hst (lv_room hsum) d hf
  refine vx_callv hrun hS (fun q _ h => h) (fun q h => h) (fun q _ h => h) (fun E ce q9 u t H1 locs1 ht hvm hp hB hz hk1 hS1 h1 h2 h3 => ?_) (fun u t H1 locs1 ht hvm hw hB hz hk1 hS1 => ?_)
  · obtain ⟨E1, u⟩ := u
    obtain ⟨rfl, hB⟩ := hB
    exact kx E u hp H1 locs1 ls q9 ce (by rw [← ht]; exact hB) hS1 hl h1 h2 h3
  · have hp := hw
    exact kk u hp H1 locs1 ls (by rw [← ht]; exact hB) hS1 hl

theorem V_callS_V (X : Cx g p l R s m args meth c cc nL own Ts) {y : MethodName} {idx maxL mc ms na : Nat} {bytes : ByteArray} {ret : Option FieldType} {ws ws' : List Cond} {rm : Room} {As : List Value} {post : St → Prop} (hM : Met l y ws rm (va_Pc (As) (World g σ)) (QV g post) mc ms (gA g)) (hG : GoodIn Ts (va_wsS own idx y ws)) (hw : ws = Cond.code y bytes maxL ret :: ws') (hrc : rm.cells = mc) (hrs : rm.slots = ms) (hd : y.cls ≠ "java/lang/invoke/MethodHandle" ∧ y.cls ≠ "java/lang/invoke/VarHandle" ∧ (parseMethodDescriptor y.desc).map (fun d => d.parameters.length) = some na) (hR : rm.frames + 1 ≤ R.frames ∧ 8 + (maxL + 11) + rm.locals ≤ R.locals) (hna : As.length = na) (hst : st = As.reverse ++ rest) (hsum : (rest.map fun v => v.category).sum ≤ 8) (hf : k + mc ≤ R.cells ∧ n + ms ≤ R.slots) (d : decode cc pc = .ok (.invokestatic idx, 3)) (kk : ∀ (u : St), post u → V g p l e R s m args below meth c nL (k + mc) (n + ms) Q u (pc + 3) lv (rest)) : V g p l e R s m args below meth c nL k n Q σ pc lv st := by
  obtain ⟨⟨hx, hb, hml, hown, hts⟩, hwk, hg, hl9, hlk⟩ := X
  intro H locs ls hP hS hl
  have hrun := va_runS (p := p) (l := l) (e := e) (R := R) (s := s) (m := m) (args := args) (below := below) (meth := meth) (c := c) (H := H) (locs := locs) (cells := k) (slots := n) (g := F0 m pc ls st) (rest := rest) (As := As) ⟨hx, hb, hml, hown, hts⟩ hM (va_cwS na hts hG hw hrc hrs hd hR) ⟨World.blind, fun U hU hW => ⟨rfl, World.call hwk hg hP hS hU hW⟩⟩ rfl hna hl.1 hst (lv_room hsum) d hf
  refine va_callv hrun hS (fun q _ h => h) (fun q h => h) (fun u t H1 locs1 ht hvm hw hB hz hk1 hS1 => ?_)
  have hp := hw
  exact kk u hp H1 locs1 ls (by rw [← ht]; exact hB) hS1 hl

theorem V_callS_Vx (X : Cx g p l R s m args meth c cc nL own Ts) {y : MethodName} {idx maxL mc ms na : Nat} {bytes : ByteArray} {ret : Option FieldType} {ws ws' : List Cond} {rm : Room} {As : List Value} {post : St → Prop} {px : String → St → Prop} (hM : vx_Met l y ws rm (va_Pc (As) (World g σ)) (QV g post) (XT g px) mc ms (gA g)) (hG : GoodIn Ts (va_wsS own idx y ws)) (hw : ws = Cond.code y bytes maxL ret :: ws') (hrc : rm.cells = mc) (hrs : rm.slots = ms) (hd : y.cls ≠ "java/lang/invoke/MethodHandle" ∧ y.cls ≠ "java/lang/invoke/VarHandle" ∧ (parseMethodDescriptor y.desc).map (fun d => d.parameters.length) = some na) (hR : rm.frames + 1 ≤ R.frames ∧ 8 + (maxL + 11) + rm.locals ≤ R.locals) (hna : As.length = na) (hst : st = As.reverse ++ rest) (hsum : (rest.map fun v => v.category).sum ≤ 8) (hf : k + mc ≤ R.cells ∧ n + ms ≤ R.slots) (d : decode cc pc = .ok (.invokestatic idx, 3)) (kx : ∀ (E : String) (u : St), px E u → VX g p l e R s m args below meth c nL (k + mc) (n + ms) Q u E pc lv rest) (kk : ∀ (u : St), post u → V g p l e R s m args below meth c nL (k + mc) (n + ms) Q u (pc + 3) lv (rest)) : V g p l e R s m args below meth c nL k n Q σ pc lv st := by
  obtain ⟨⟨hx, hb, hml, hown, hts⟩, hwk, hg, hl9, hlk⟩ := X
  intro H locs ls hP hS hl
  have hrun := vx_runS (p := p) (l := l) (e := e) (R := R) (s := s) (m := m) (args := args) (below := below) (meth := meth) (c := c) (H := H) (locs := locs) (cells := k) (slots := n) (g := F0 m pc ls st) (rest := rest) (As := As) ⟨hx, hb, hml, hown, hts⟩ hM (va_cwS na hts hG hw hrc hrs hd hR) ⟨World.blind, fun U hU hW => ⟨rfl, World.call hwk hg hP hS hU hW⟩⟩ rfl hna hl.1 hst (lv_room hsum) d hf
  refine vx_callv hrun hS (fun q _ h => h) (fun q h => h) (fun q _ h => h) (fun E ce q9 u t H1 locs1 ht hvm hp hB hz hk1 hS1 h1 h2 h3 => ?_) (fun u t H1 locs1 ht hvm hw hB hz hk1 hS1 => ?_)
  · obtain ⟨E1, u⟩ := u
    obtain ⟨rfl, hB⟩ := hB
    exact kx E u hp H1 locs1 ls q9 ce (by rw [← ht]; exact hB) hS1 hl h1 h2 h3
  · have hp := hw
    exact kk u hp H1 locs1 ls (by rw [← ht]; exact hB) hS1 hl

theorem V_callS_Vw (X : Cx g p l R s m args meth c cc nL own Ts) {hh : List (Nat × Nat × Nat × Nat)} {y : MethodName} {idx maxL mc ms na : Nat} {bytes : ByteArray} {ret : Option FieldType} {ws ws' : List Cond} {rm : Room} {As : List Value} {post : St → Prop} {px : String → St → Prop} (hM : vx_Met l y ws rm (va_Pc (As) (World g σ)) (QV g post) (XT g px) mc ms (gA g)) (hG : GoodIn Ts (va_wsS own idx y ws)) (hw : ws = Cond.codeWith y bytes maxL ret hh :: ws') (hrc : rm.cells = mc) (hrs : rm.slots = ms) (hd : y.cls ≠ "java/lang/invoke/MethodHandle" ∧ y.cls ≠ "java/lang/invoke/VarHandle" ∧ (parseMethodDescriptor y.desc).map (fun d => d.parameters.length) = some na) (hR : rm.frames + 1 ≤ R.frames ∧ 8 + (maxL + 11) + rm.locals ≤ R.locals) (hna : As.length = na) (hst : st = As.reverse ++ rest) (hsum : (rest.map fun v => v.category).sum ≤ 8) (hf : k + mc ≤ R.cells ∧ n + ms ≤ R.slots) (d : decode cc pc = .ok (.invokestatic idx, 3)) (kx : ∀ (E : String) (u : St), px E u → VX g p l e R s m args below meth c nL (k + mc) (n + ms) Q u E pc lv rest) (kk : ∀ (u : St), post u → V g p l e R s m args below meth c nL (k + mc) (n + ms) Q u (pc + 3) lv (rest)) : V g p l e R s m args below meth c nL k n Q σ pc lv st := by
  obtain ⟨⟨hx, hb, hml, hown, hts⟩, hwk, hg, hl9, hlk⟩ := X
  intro H locs ls hP hS hl
  have hrun := vx_runSX (p := p) (l := l) (e := e) (R := R) (s := s) (m := m) (args := args) (below := below) (meth := meth) (c := c) (H := H) (locs := locs) (cells := k) (slots := n) (g := F0 m pc ls st) (rest := rest) (As := As) ⟨hx, hb, hml, hown, hts⟩ hM (vx_cwSW na hts hG hw hrc hrs hd hR) ⟨World.blind, fun U hU hW => ⟨rfl, World.call hwk hg hP hS hU hW⟩⟩ rfl hna hl.1 hst (lv_room hsum) d hf
  refine vx_callv hrun hS (fun q _ h => h) (fun q h => h) (fun q _ h => h) (fun E ce q9 u t H1 locs1 ht hvm hp hB hz hk1 hS1 h1 h2 h3 => ?_) (fun u t H1 locs1 ht hvm hw hB hz hk1 hS1 => ?_)
  · obtain ⟨E1, u⟩ := u
    obtain ⟨rfl, hB⟩ := hB
    exact kx E u hp H1 locs1 ls q9 ce (by rw [← ht]; exact hB) hS1 hl h1 h2 h3
  · have hp := hw
    exact kk u hp H1 locs1 ls (by rw [← ht]; exact hB) hS1 hl

theorem V_callV_R (X : Cx g p l R s m args meth c cc nL own Ts) {ci N : Nat} {T : u_T} {C : String} (b0 : Nat) (hb0 : b0 < 112) (hkd : kd b0 = ci) (h8 : ci < 8) (hc : vwCl[ci]? = some (C, T, N)) {y : MethodName} {idx maxL mc ms na : Nat} {bytes : ByteArray} {ret : Option FieldType} {ws ws' : List Cond} {rm : Room} {As : List Value} {post : Nat → St → Prop} (hM : Met l y ws rm (va_Pc (.ref (ga g b0) :: As) (World g σ)) (QR g post) mc ms (gA g)) (hG : GoodIn Ts (wsV own idx C y ws)) (hw : ws = Cond.code y bytes maxL ret :: ws') (hrc : rm.cells = mc) (hrs : rm.slots = ms) (hd : y.cls = C ∧ y.cls ≠ "java/lang/invoke/MethodHandle" ∧ y.cls ≠ "java/lang/invoke/VarHandle" ∧ (parseMethodDescriptor y.desc).map (fun d => d.parameters.length) = some na) (hR : rm.frames + 1 ≤ R.frames ∧ 8 + (maxL + 11) + rm.locals ≤ R.locals) (hna : As.length = na) (hst : st = As.reverse ++ .ref (ga g b0) :: rest) (hsum : (rest.map fun v => v.category).sum ≤ 8) (hf : k + mc ≤ R.cells ∧ n + ms ≤ R.slots) (d : decode cc pc = .ok (.invokevirtual idx, 3)) (kk : ∀ (b : Nat) (u : St), post b u → V g p l e R s m args below meth c nL (k + mc) (n + ms) Q u (pc + 3) lv (.ref (ga g b) :: rest)) : V g p l e R s m args below meth c nL k n Q σ pc lv st := by
  obtain ⟨⟨hx, hb, hml, hown, hts⟩, hwk, hg, hl9, hlk⟩ := X
  intro H locs ls hP hS hl
  have he : (cells g σ)[b0]? = some (ga g b0, .inr (ci, flds g (σ.1 b0) ci b0)) := by rw [cells_at hb0, cL_obj hkd h8]
  have hrun := va_runV (p := p) (l := l) (e := e) (R := R) (s := s) (m := m) (args := args) (below := below) (meth := meth) (c := c) (H := H) (locs := locs) (cells := k) (slots := n) (g := F0 m pc ls st) (rest := rest) (As := As) ⟨hx, hb, hml, hown, hts⟩ hM (cwV na hts hG hw hrc hrs hd hR) ⟨World.blind, va_recv hwk.1 hP (q0 := b0) hc he, fun U hU hW => ⟨rfl, World.call hwk hg hP hS hU hW⟩⟩ rfl hna hl.1 hst (lv_room hsum) d hf
  refine va_callq hrun hS (fun q _ h => h) (fun q h => h) (fun r u0 t H1 locs1 ht hvm hw hB hz hk1 hS1 => ?_)
  obtain ⟨u, b⟩ := u0
  obtain ⟨rfl, hp⟩ := hw
  exact kk b u hp H1 locs1 ls (by rw [← ht]; exact hB) hS1 hl

theorem V_callV_Rx (X : Cx g p l R s m args meth c cc nL own Ts) {ci N : Nat} {T : u_T} {C : String} (b0 : Nat) (hb0 : b0 < 112) (hkd : kd b0 = ci) (h8 : ci < 8) (hc : vwCl[ci]? = some (C, T, N)) {y : MethodName} {idx maxL mc ms na : Nat} {bytes : ByteArray} {ret : Option FieldType} {ws ws' : List Cond} {rm : Room} {As : List Value} {post : Nat → St → Prop} {px : String → St → Prop} (hM : vx_Met l y ws rm (va_Pc (.ref (ga g b0) :: As) (World g σ)) (QR g post) (XT g px) mc ms (gA g)) (hG : GoodIn Ts (wsV own idx C y ws)) (hw : ws = Cond.code y bytes maxL ret :: ws') (hrc : rm.cells = mc) (hrs : rm.slots = ms) (hd : y.cls = C ∧ y.cls ≠ "java/lang/invoke/MethodHandle" ∧ y.cls ≠ "java/lang/invoke/VarHandle" ∧ (parseMethodDescriptor y.desc).map (fun d => d.parameters.length) = some na) (hR : rm.frames + 1 ≤ R.frames ∧ 8 + (maxL + 11) + rm.locals ≤ R.locals) (hna : As.length = na) (hst : st = As.reverse ++ .ref (ga g b0) :: rest) (hsum : (rest.map fun v => v.category).sum ≤ 8) (hf : k + mc ≤ R.cells ∧ n + ms ≤ R.slots) (d : decode cc pc = .ok (.invokevirtual idx, 3)) (kx : ∀ (E : String) (u : St), px E u → VX g p l e R s m args below meth c nL (k + mc) (n + ms) Q u E pc lv rest) (kk : ∀ (b : Nat) (u : St), post b u → V g p l e R s m args below meth c nL (k + mc) (n + ms) Q u (pc + 3) lv (.ref (ga g b) :: rest)) : V g p l e R s m args below meth c nL k n Q σ pc lv st := by
  obtain ⟨⟨hx, hb, hml, hown, hts⟩, hwk, hg, hl9, hlk⟩ := X
  intro H locs ls hP hS hl
  have he : (cells g σ)[b0]? = some (ga g b0, .inr (ci, flds g (σ.1 b0) ci b0)) := by rw [cells_at hb0, cL_obj hkd h8]
  have hrun := vx_runV (p := p) (l := l) (e := e) (R := R) (s := s) (m := m) (args := args) (below := below) (meth := meth) (c := c) (H := H) (locs := locs) (cells := k) (slots := n) (g := F0 m pc ls st) (rest := rest) (As := As) ⟨hx, hb, hml, hown, hts⟩ hM (cwV na hts hG hw hrc hrs hd hR) ⟨World.blind, va_recv hwk.1 hP (q0 := b0) hc he, fun U hU hW => ⟨rfl, World.call hwk hg hP hS hU hW⟩⟩ rfl hna hl.1 hst (lv_room hsum) d hf
  refine vx_callq hrun hS (fun q _ h => h) (fun q h => h) (fun q _ h => h) (fun E ce q9 u t H1 locs1 ht hvm hp hB hz hk1 hS1 h1 h2 h3 => ?_) (fun r u0 t H1 locs1 ht hvm hw hB hz hk1 hS1 => ?_)
  · obtain ⟨E1, u⟩ := u
    obtain ⟨rfl, hB⟩ := hB
    exact kx E u hp H1 locs1 ls q9 ce (by rw [← ht]; exact hB) hS1 hl h1 h2 h3
  · obtain ⟨u, b⟩ := u0
    obtain ⟨rfl, hp⟩ := hw
    exact kk b u hp H1 locs1 ls (by rw [← ht]; exact hB) hS1 hl

theorem V_callS_R (X : Cx g p l R s m args meth c cc nL own Ts) {y : MethodName} {idx maxL mc ms na : Nat} {bytes : ByteArray} {ret : Option FieldType} {ws ws' : List Cond} {rm : Room} {As : List Value} {post : Nat → St → Prop} (hM : Met l y ws rm (va_Pc (As) (World g σ)) (QR g post) mc ms (gA g)) (hG : GoodIn Ts (va_wsS own idx y ws)) (hw : ws = Cond.code y bytes maxL ret :: ws') (hrc : rm.cells = mc) (hrs : rm.slots = ms) (hd : y.cls ≠ "java/lang/invoke/MethodHandle" ∧ y.cls ≠ "java/lang/invoke/VarHandle" ∧ (parseMethodDescriptor y.desc).map (fun d => d.parameters.length) = some na) (hR : rm.frames + 1 ≤ R.frames ∧ 8 + (maxL + 11) + rm.locals ≤ R.locals) (hna : As.length = na) (hst : st = As.reverse ++ rest) (hsum : (rest.map fun v => v.category).sum ≤ 8) (hf : k + mc ≤ R.cells ∧ n + ms ≤ R.slots) (d : decode cc pc = .ok (.invokestatic idx, 3)) (kk : ∀ (b : Nat) (u : St), post b u → V g p l e R s m args below meth c nL (k + mc) (n + ms) Q u (pc + 3) lv (.ref (ga g b) :: rest)) : V g p l e R s m args below meth c nL k n Q σ pc lv st := by
  obtain ⟨⟨hx, hb, hml, hown, hts⟩, hwk, hg, hl9, hlk⟩ := X
  intro H locs ls hP hS hl
  have hrun := va_runS (p := p) (l := l) (e := e) (R := R) (s := s) (m := m) (args := args) (below := below) (meth := meth) (c := c) (H := H) (locs := locs) (cells := k) (slots := n) (g := F0 m pc ls st) (rest := rest) (As := As) ⟨hx, hb, hml, hown, hts⟩ hM (va_cwS na hts hG hw hrc hrs hd hR) ⟨World.blind, fun U hU hW => ⟨rfl, World.call hwk hg hP hS hU hW⟩⟩ rfl hna hl.1 hst (lv_room hsum) d hf
  refine va_callq hrun hS (fun q _ h => h) (fun q h => h) (fun r u0 t H1 locs1 ht hvm hw hB hz hk1 hS1 => ?_)
  obtain ⟨u, b⟩ := u0
  obtain ⟨rfl, hp⟩ := hw
  exact kk b u hp H1 locs1 ls (by rw [← ht]; exact hB) hS1 hl

theorem V_callS_Rx (X : Cx g p l R s m args meth c cc nL own Ts) {y : MethodName} {idx maxL mc ms na : Nat} {bytes : ByteArray} {ret : Option FieldType} {ws ws' : List Cond} {rm : Room} {As : List Value} {post : Nat → St → Prop} {px : String → St → Prop} (hM : vx_Met l y ws rm (va_Pc (As) (World g σ)) (QR g post) (XT g px) mc ms (gA g)) (hG : GoodIn Ts (va_wsS own idx y ws)) (hw : ws = Cond.code y bytes maxL ret :: ws') (hrc : rm.cells = mc) (hrs : rm.slots = ms) (hd : y.cls ≠ "java/lang/invoke/MethodHandle" ∧ y.cls ≠ "java/lang/invoke/VarHandle" ∧ (parseMethodDescriptor y.desc).map (fun d => d.parameters.length) = some na) (hR : rm.frames + 1 ≤ R.frames ∧ 8 + (maxL + 11) + rm.locals ≤ R.locals) (hna : As.length = na) (hst : st = As.reverse ++ rest) (hsum : (rest.map fun v => v.category).sum ≤ 8) (hf : k + mc ≤ R.cells ∧ n + ms ≤ R.slots) (d : decode cc pc = .ok (.invokestatic idx, 3)) (kx : ∀ (E : String) (u : St), px E u → VX g p l e R s m args below meth c nL (k + mc) (n + ms) Q u E pc lv rest) (kk : ∀ (b : Nat) (u : St), post b u → V g p l e R s m args below meth c nL (k + mc) (n + ms) Q u (pc + 3) lv (.ref (ga g b) :: rest)) : V g p l e R s m args below meth c nL k n Q σ pc lv st := by
  obtain ⟨⟨hx, hb, hml, hown, hts⟩, hwk, hg, hl9, hlk⟩ := X
  intro H locs ls hP hS hl
  have hrun := vx_runS (p := p) (l := l) (e := e) (R := R) (s := s) (m := m) (args := args) (below := below) (meth := meth) (c := c) (H := H) (locs := locs) (cells := k) (slots := n) (g := F0 m pc ls st) (rest := rest) (As := As) ⟨hx, hb, hml, hown, hts⟩ hM (va_cwS na hts hG hw hrc hrs hd hR) ⟨World.blind, fun U hU hW => ⟨rfl, World.call hwk hg hP hS hU hW⟩⟩ rfl hna hl.1 hst (lv_room hsum) d hf
  refine vx_callq hrun hS (fun q _ h => h) (fun q h => h) (fun q _ h => h) (fun E ce q9 u t H1 locs1 ht hvm hp hB hz hk1 hS1 h1 h2 h3 => ?_) (fun r u0 t H1 locs1 ht hvm hw hB hz hk1 hS1 => ?_)
  · obtain ⟨E1, u⟩ := u
    obtain ⟨rfl, hB⟩ := hB
    exact kx E u hp H1 locs1 ls q9 ce (by rw [← ht]; exact hB) hS1 hl h1 h2 h3
  · obtain ⟨u, b⟩ := u0
    obtain ⟨rfl, hp⟩ := hw
    exact kk b u hp H1 locs1 ls (by rw [← ht]; exact hB) hS1 hl

theorem V_callS_Rw (X : Cx g p l R s m args meth c cc nL own Ts) {hh : List (Nat × Nat × Nat × Nat)} {y : MethodName} {idx maxL mc ms na : Nat} {bytes : ByteArray} {ret : Option FieldType} {ws ws' : List Cond} {rm : Room} {As : List Value} {post : Nat → St → Prop} {px : String → St → Prop} (hM : vx_Met l y ws rm (va_Pc (As) (World g σ)) (QR g post) (XT g px) mc ms (gA g)) (hG : GoodIn Ts (va_wsS own idx y ws)) (hw : ws = Cond.codeWith y bytes maxL ret hh :: ws') (hrc : rm.cells = mc) (hrs : rm.slots = ms) (hd : y.cls ≠ "java/lang/invoke/MethodHandle" ∧ y.cls ≠ "java/lang/invoke/VarHandle" ∧ (parseMethodDescriptor y.desc).map (fun d => d.parameters.length) = some na) (hR : rm.frames + 1 ≤ R.frames ∧ 8 + (maxL + 11) + rm.locals ≤ R.locals) (hna : As.length = na) (hst : st = As.reverse ++ rest) (hsum : (rest.map fun v => v.category).sum ≤ 8) (hf : k + mc ≤ R.cells ∧ n + ms ≤ R.slots) (d : decode cc pc = .ok (.invokestatic idx, 3)) (kx : ∀ (E : String) (u : St), px E u → VX g p l e R s m args below meth c nL (k + mc) (n + ms) Q u E pc lv rest) (kk : ∀ (b : Nat) (u : St), post b u → V g p l e R s m args below meth c nL (k + mc) (n + ms) Q u (pc + 3) lv (.ref (ga g b) :: rest)) : V g p l e R s m args below meth c nL k n Q σ pc lv st := by
  obtain ⟨⟨hx, hb, hml, hown, hts⟩, hwk, hg, hl9, hlk⟩ := X
  intro H locs ls hP hS hl
  have hrun := vx_runSX (p := p) (l := l) (e := e) (R := R) (s := s) (m := m) (args := args) (below := below) (meth := meth) (c := c) (H := H) (locs := locs) (cells := k) (slots := n) (g := F0 m pc ls st) (rest := rest) (As := As) ⟨hx, hb, hml, hown, hts⟩ hM (vx_cwSW na hts hG hw hrc hrs hd hR) ⟨World.blind, fun U hU hW => ⟨rfl, World.call hwk hg hP hS hU hW⟩⟩ rfl hna hl.1 hst (lv_room hsum) d hf
  refine vx_callq hrun hS (fun q _ h => h) (fun q h => h) (fun q _ h => h) (fun E ce q9 u t H1 locs1 ht hvm hp hB hz hk1 hS1 h1 h2 h3 => ?_) (fun r u0 t H1 locs1 ht hvm hw hB hz hk1 hS1 => ?_)
  · obtain ⟨E1, u⟩ := u
    obtain ⟨rfl, hB⟩ := hB
    exact kx E u hp H1 locs1 ls q9 ce (by rw [← ht]; exact hB) hS1 hl h1 h2 h3
  · obtain ⟨u, b⟩ := u0
    obtain ⟨rfl, hp⟩ := hw
    exact kk b u hp H1 locs1 ls (by rw [← ht]; exact hB) hS1 hl


/-- an exception leaves the method -/
theorem VX_out {E : String} {px : String → St → Prop} {Qc : Array Value → State → Outcome → State → Prop} {mc ms : Nat} (X : Cx g p l R s m args meth c cc nL own Ts) (hno : ∀ x ∈ c.exceptionTable.toList, False) (hp : px E σ) (hk : k ≤ mc) (hn : n ≤ ms) : VX g p l e R s m args below meth c nL k n (vx_MQ below Qc (XT g px) args s mc ms (gA g)) σ E pc lv st := by
  obtain ⟨⟨hx, hb, hml, hown, hts⟩, hwk, hg, hl9, hlk⟩ := X
  intro H locs ls q ce hP hS hl h1 h2 h3
  exact vx_out (fun x hx => (hno x hx).elim) hlk h1 h2 h3 (fun t ht hvm => ⟨(E, σ), hp, ⟨rfl, by unfold Bw; rw [ht]; exact hP⟩, hS.F ht⟩) hS.2.2 hk hn
/-- throw new X("text") -/
theorem V_throw {cls text : String} {ik is ic mc ms : Nat} {px : String → St → Prop} {Qc : Array Value → State → Outcome → State → Prop} (X : Cx g p l R s m args meth c cc nL own Ts) (hno : ∀ x ∈ c.exceptionTable.toList, False) (hown2 : own = "Ghostracer") (htx : (is, text) ∈ texts) (hcls : Bundle.fit cls = true)
    (hk : Cond.classLink own ik cls ∈ Ts) (hini : Cond.initialized cls ∈ Ts) (hat : ∀ w ∈ vx_atS own ic cls ["java/lang/RuntimeException", "java/lang/Exception"], w ∈ Ts)
    (hgood : ∀ w ∈ Cond.classLink own ik cls :: Cond.initialized cls :: vx_atS own ic cls ["java/lang/RuntimeException", "java/lang/Exception"], vx_ot w = true)
    (d0 : decode cc pc = .ok (.new ik, 3)) (d3 : decode cc (pc + 3) = .ok (.dup, 1)) (d4 : decode cc (pc + 4) = .ok (.ldc is, 2)) (d6 : decode cc (pc + 6) = .ok (.invokespecial ic, 3)) (d9 : decode cc (pc + 9) = .ok (.athrow, 1))
    (hRf : 5 < R.frames) (hRl : (st.map fun v => v.category).sum + 82 ≤ R.locals) (hRc : k + 1 ≤ R.cells) (hRs : n + 6 ≤ R.slots) (hc1 : k + 1 ≤ mc) (hs1 : n + 6 ≤ ms) (hp : px cls σ) : V g p l e R s m args below meth c nL k n (vx_MQ below Qc (XT g px) args s mc ms (gA g)) σ pc lv st := by
  obtain ⟨⟨hx, hb, hml, hown, hts⟩, hwk, hg, hl9, hlk⟩ := X
  intro H locs ls hP hS hl
  subst hown2
  obtain ⟨sa, hsa⟩ := hwk.2.2.2 _ htx
  refine vx_throwS (A := gA g) (text := text) (sa := sa) hx hb hl9 hown hcls (by decide) (hts _ hk) (hts _ hini) hsa (fun w hw => hts w (hat w hw)) hgood hwk.2.2.1.2.2.1 hwk.2.2.1.2.2.2 hS (hl.1.trans hml.symm) d0 d3 d4 d6 d9 (fun x hx => (hno x hx).elim) hRf hRl hRc hRs hlk (fun t hvm hz hq => ⟨(cls, σ), hp, ⟨rfl, ?_⟩, ?_⟩) hS.2.2 hc1 hs1
  · exact hP.kept (fun k q hk => hq q.1 (hP k q hk).lt)
  · exact ⟨Nat.le_trans hS.1 hz, fun q h1 h2 => (hq q (Nat.lt_of_lt_of_le h1 hS.1)).trans (hS.2.1 q h1 h2)⟩
theorem V_throwW {cls text : String} {ik is ic mc ms : Nat} {px : String → St → Prop} {Qc : Array Value → State → Outcome → State → Prop} (X : Cx g p l R s m args meth c cc nL own Ts) (hno : ∀ x ∈ c.exceptionTable.toList, False) (hown2 : own = "Ghostracer") (htx : (is, text) ∈ texts) (hcls : Bundle.fit cls = true)
    (hk : Cond.classLink own ik cls ∈ Ts) (hini : Cond.initialized cls ∈ Ts) (hat : ∀ w ∈ vx_atS own ic cls ["java/lang/RuntimeException", "java/lang/Exception"], w ∈ Ts)
    (hgood : ∀ w ∈ Cond.classLink own ik cls :: Cond.initialized cls :: vx_atS own ic cls ["java/lang/RuntimeException", "java/lang/Exception"], vx_ot w = true)
    (d0 : decode cc pc = .ok (.new ik, 3)) (d3 : decode cc (pc + 3) = .ok (.dup, 1)) (d4 : decode cc (pc + 4) = .ok (.ldc_w is, 3)) (d7 : decode cc (pc + 7) = .ok (.invokespecial ic, 3)) (d10 : decode cc (pc + 10) = .ok (.athrow, 1))
    (hRf : 5 < R.frames) (hRl : (st.map fun v => v.category).sum + 82 ≤ R.locals) (hRc : k + 1 ≤ R.cells) (hRs : n + 6 ≤ R.slots) (hc1 : k + 1 ≤ mc) (hs1 : n + 6 ≤ ms) (hp : px cls σ) : V g p l e R s m args below meth c nL k n (vx_MQ below Qc (XT g px) args s mc ms (gA g)) σ pc lv st := by
  obtain ⟨⟨hx, hb, hml, hown, hts⟩, hwk, hg, hl9, hlk⟩ := X
  intro H locs ls hP hS hl
  subst hown2
  obtain ⟨sa, hsa⟩ := hwk.2.2.2 _ htx
  refine vx_throwSW (A := gA g) (text := text) (sa := sa) hx hb hl9 hown hcls (by decide) (hts _ hk) (hts _ hini) hsa (fun w hw => hts w (hat w hw)) hgood hwk.2.2.1.2.2.1 hwk.2.2.1.2.2.2 hS (hl.1.trans hml.symm) d0 d3 d4 d7 d10 (fun x hx => (hno x hx).elim) hRf hRl hRc hRs hlk (fun t hvm hz hq => ⟨(cls, σ), hp, ⟨rfl, ?_⟩, ?_⟩) hS.2.2 hc1 hs1
  · exact hP.kept (fun k q hk => hq q.1 (hP k q hk).lt)
  · exact ⟨Nat.le_trans hS.1 hz, fun q h1 h2 => (hq q (Nat.lt_of_lt_of_le h1 hS.1)).trans (hS.2.1 q h1 h2)⟩
/-- a handler catches -/
theorem VX_catch {E name : String} (X : Cx g p l R s m args meth c cc nL own Ts) (pre : List ExceptionTableEntry) (x : ExceptionTableEntry) (suf : List ExceptionTableEntry) (hsplit : c.exceptionTable.toList = pre ++ x :: suf)
    (hpass : ∀ z ∈ pre, covers z pc = false ∨ (z.catchType ≠ 0 ∧ ∃ nm : String, Cond.classLink own z.catchType nm ∈ Ts ∧ va_Nc E nm s)) (hx0 : covers x pc = true) (h0 : x.catchType ≠ 0)
    (hlink : Cond.classLink own x.catchType name ∈ Ts) (hcast : Cond.castable E name ∈ Ts)
    (kk : ∀ q : Nat, V g p l e R s m args below meth c nL k n Q σ x.handlerPc lv [.ref q]) : VX g p l e R s m args below meth c nL k n Q σ E pc lv st := by
  obtain ⟨⟨hx, hb, hml, hown, hts⟩, hwk, hg, hl9, hlk⟩ := X
  intro H locs ls q ce hP hS hl h1 h2 h3
  refine vx_catch hown pre x suf hsplit (fun z hz => ?_) hx0 h0 (hts _ hlink) (hts _ hcast) h1 h2 h3 (kk q H locs ls hP hS hl)
  rcases hpass z hz with h | ⟨h, nm, h4, h5⟩
  · exact Or.inl h
  · exact Or.inr ⟨h, nm, hts _ h4, h5⟩
end VC
end
